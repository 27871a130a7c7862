/** Promise 3: kind. */
public final class KindTest {
    private static final Due due = new Due("KindTest");

    public static void main(String[] args) {
        everyStateAndKind();
        wrongOnesAreRefused();
        aRefusedOneChangesNothing();
        aKindIsTakenBack();
        aKindIsChanged();
        aTextThatIsNotEmptyRefuses();
        anEmptiedTextTakesKinds();
        noneIsNoKindToBeFound();
        boundsOfKindsInEveryState();
        aTextOfAnySizeRefuses();
        due.end();
    }

    private static void everyStateAndKind() {
        for (int kind = 0; kind < 100; kind++) {
            EditedScanner x = new EditedScanner();
            int state = kind % 20;
            x.arrow(0, 3, state);
            due.is("kind(" + state + ", " + kind + ")", x.kind(state, kind), true);
            x.edit(0, 0, 0x34, 2);
            due.is("token(0, 2)", x.token(0, 2), kind);
        }
    }

    private static void wrongOnesAreRefused() {
        EditedScanner x = new EditedScanner();
        int[] noState = {-1, -2, 20, 21, Integer.MIN_VALUE, Integer.MAX_VALUE};
        int[] noKind = {-2, -3, 100, 101, Integer.MIN_VALUE, Integer.MAX_VALUE};
        for (int i = 0; i < 6; i++) {
            due.is("state " + noState[i], x.kind(noState[i], 0), false);
            due.is("kind " + noKind[i], x.kind(0, noKind[i]), false);
        }
        due.is("kind(0, 0)", x.kind(0, 0), true);
        due.is("kind(19, 99)", x.kind(19, 99), true);
        due.is("kind(19, -1)", x.kind(19, -1), true);
    }

    private static void aRefusedOneChangesNothing() {
        EditedScanner x = Samples.onesAndQuotes();
        x.kind(1, 100);
        x.kind(1, -2);
        x.kind(21, 4);
        x.kind(-1, 4);
        Samples.edit(x, 0, 0, "1");
        due.found("1", x, "0+1:7/2");
    }

    private static void aKindIsTakenBack() {
        EditedScanner x = Samples.onesAndQuotes();
        due.is("kind(1, -1)", x.kind(1, -1), true);
        Samples.edit(x, 0, 0, "11");
        due.found("11", x, "0!/3");
    }

    private static void aKindIsChanged() {
        EditedScanner x = Samples.onesAndQuotes();
        due.is("kind(1, 0)", x.kind(1, 0), true);
        Samples.edit(x, 0, 0, "11");
        due.found("11", x, "0+2:0/3");
    }

    private static void aTextThatIsNotEmptyRefuses() {
        EditedScanner x = Samples.onesAndQuotes();
        Samples.edit(x, 0, 0, "11");
        due.is("kind(1, 8)", x.kind(1, 8), false);
        due.is("kind(1, -1)", x.kind(1, -1), false);
        Samples.edit(x, 0, 1, "1");
        due.found("11", x, "0+2:7/3");
        EditedScanner failed = new EditedScanner();
        Samples.edit(failed, 0, 0, "1");
        due.is("kind behind a failure", failed.kind(0, 1), false);
    }

    private static void anEmptiedTextTakesKinds() {
        EditedScanner x = Samples.onesAndQuotes();
        Samples.edit(x, 0, 0, "11");
        Samples.edit(x, 0, 2, "");
        due.is("kind(1, 8)", x.kind(1, 8), true);
        Samples.edit(x, 0, 0, "11");
        due.found("11", x, "0+2:8/3");
    }

    /** "or of none (-1): true", for one that had none before, too. */
    private static void noneIsNoKindToBeFound() {
        EditedScanner x = new EditedScanner();
        due.is("kind(0, -1)", x.kind(0, -1), true);
        due.is("kind(19, -1)", x.kind(19, -1), true);
        due.is("kind(0, -2)", x.kind(0, -2), false);
        due.is("kind(-1, 0)", x.kind(-1, 0), false);
        due.is("kind(-1, -1)", x.kind(-1, -1), false);
        x.arrow(0, 0, 0);
        Samples.edit(x, 0, 0, "00");
        due.found("00", x, "0!/3");
    }

    /** "false if there is no such state or kind": both bounds, in every state. */
    private static void boundsOfKindsInEveryState() {
        EditedScanner x = new EditedScanner();
        for (int state = 0; state < 20; state++) {
            String name = "kind(" + state + ", ";
            due.is(name + "-2)", x.kind(state, -2), false);
            due.is(name + "-1)", x.kind(state, -1), true);
            due.is(name + "0)", x.kind(state, 0), true);
            due.is(name + "99)", x.kind(state, 99), true);
            due.is(name + "100)", x.kind(state, 100), false);
        }
        x.arrow(0, 0, 19);
        Samples.edit(x, 0, 0, "0");
        due.found("0", x, "0+1:99/2");
    }

    /** "or the text is not empty": with one symbol, with 400, with tokens or a failure. */
    private static void aTextOfAnySizeRefuses() {
        EditedScanner one = Samples.zeros();
        one.edit(0, 0, 0L, 1);
        EditedScanner failed = Samples.zeros();
        failed.edit(0, 0, 1L, 1);
        EditedScanner[] texts = {one, failed, Samples.fullOfSingles(), Samples.fullOfZeros(),
            Samples.fullWithFailure()};
        for (EditedScanner x : texts) {
            int size = x.count(1);
            due.is("kind(0, 0) at size " + size, x.kind(0, 0), false);
            due.is("kind(0, -1) at size " + size, x.kind(0, -1), false);
            due.is("kind(19, 99) at size " + size, x.kind(19, 99), false);
            due.is("kind(20, 99) at size " + size, x.kind(20, 99), false);
            x.edit(0, size, 0L, 0);
            due.is("kind(0, 0) when emptied", x.kind(0, 0), true);
        }
        EditedScanner edited = Samples.zeros();
        edited.edit(0, 0, 0L, 0);
        due.is("kind behind an edit of nothing", edited.kind(0, 0), true);
    }
}
