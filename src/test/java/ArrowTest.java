/** Promise 2: arrow. */
public final class ArrowTest {
    private static final Due due = new Due("ArrowTest");

    public static void main(String[] args) {
        everyArrowIsItsOwn();
        wrongOnesAreRefused();
        aRefusedOneChangesNothing();
        anArrowIsTakenBack();
        anArrowIsTurned();
        aTextThatIsNotEmptyRefuses();
        anEmptiedTextTakesArrows();
        nowhereIsNoStateToLeadFrom();
        noOtherArrowIsMeant();
        aTextOfAnySizeRefuses();
        due.end();
    }

    /** State 0 leads by symbol 9 to the state that is tried, or is it. */
    private static void everyArrowIsItsOwn() {
        for (int state = 0; state < 20; state++) {
            for (int symbol = 0; symbol < 9; symbol++) {
                EditedScanner x = new EditedScanner();
                int to = (state * 7 + symbol + 1) % 20;
                x.arrow(0, 9, state);
                due.is("arrow", x.arrow(state, symbol, to), true);
                x.kind(to, 42);
                x.edit(0, 0, 9 * 16 + symbol, 2);
                String name = "arrow(" + state + ", " + symbol + ", " + to + ")";
                due.is(name + " token(0, 1)", x.token(0, 1), 2);
                due.is(name + " token(0, 2)", x.token(0, 2), 42);
            }
        }
    }

    private static void wrongOnesAreRefused() {
        EditedScanner x = new EditedScanner();
        int[] noState = {-1, -2, 20, 21, Integer.MIN_VALUE, Integer.MAX_VALUE};
        int[] noSymbol = {-1, -2, 10, 11, Integer.MIN_VALUE, Integer.MAX_VALUE};
        int[] noTarget = {-2, -3, 20, 21, Integer.MIN_VALUE, Integer.MAX_VALUE};
        for (int i = 0; i < 6; i++) {
            due.is("state " + noState[i], x.arrow(noState[i], 0, 0), false);
            due.is("symbol " + noSymbol[i], x.arrow(0, noSymbol[i], 0), false);
            due.is("to " + noTarget[i], x.arrow(0, 0, noTarget[i]), false);
        }
        due.is("arrow(0, 0, 0)", x.arrow(0, 0, 0), true);
        due.is("arrow(19, 9, 19)", x.arrow(19, 9, 19), true);
        due.is("arrow(19, 9, -1)", x.arrow(19, 9, -1), true);
        due.is("count(6)", x.count(6), 0);
    }

    private static void aRefusedOneChangesNothing() {
        EditedScanner x = Samples.onesAndQuotes();
        x.arrow(0, 1, 20);
        x.arrow(0, 1, -2);
        x.arrow(0, 11, -1);
        x.arrow(1, -9, -1);
        Samples.edit(x, 0, 0, "11");
        due.found("11", x, "0+2:7/3");
    }

    private static void anArrowIsTakenBack() {
        EditedScanner x = Samples.onesAndQuotes();
        due.is("arrow(1, 1, -1)", x.arrow(1, 1, -1), true);
        Samples.edit(x, 0, 0, "11");
        due.found("11", x, "0+1:7/2 1+1:7/2");
    }

    private static void anArrowIsTurned() {
        EditedScanner x = Samples.onesAndQuotes();
        due.is("arrow(0, 1, 2)", x.arrow(0, 1, 2), true);
        Samples.edit(x, 0, 0, "1");
        due.found("1", x, "0+1:3/2");
    }

    private static void aTextThatIsNotEmptyRefuses() {
        EditedScanner x = Samples.onesAndQuotes();
        Samples.edit(x, 0, 0, "11");
        due.is("arrow(1, 1, -1)", x.arrow(1, 1, -1), false);
        due.is("arrow(0, 2, -1)", x.arrow(0, 2, -1), false);
        Samples.edit(x, 0, 1, "2");
        due.found("21", x, "0+1:3/3 1+1:7/2");
        EditedScanner failed = new EditedScanner();
        Samples.edit(failed, 0, 0, "1");
        due.is("arrow behind a failure", failed.arrow(0, 1, 0), false);
    }

    private static void anEmptiedTextTakesArrows() {
        EditedScanner x = Samples.onesAndQuotes();
        Samples.edit(x, 0, 0, "11");
        Samples.edit(x, 0, 2, "");
        due.is("arrow(1, 1, -1)", x.arrow(1, 1, -1), true);
        Samples.edit(x, 0, 0, "11");
        due.found("11", x, "0+1:7/2 1+1:7/2");
    }

    /** "or nowhere (-1): true", for one that led nowhere before, too. */
    private static void nowhereIsNoStateToLeadFrom() {
        EditedScanner x = new EditedScanner();
        due.is("arrow(0, 0, -1)", x.arrow(0, 0, -1), true);
        due.is("arrow(19, 9, -1)", x.arrow(19, 9, -1), true);
        due.is("arrow(0, 0, -2)", x.arrow(0, 0, -2), false);
        due.is("arrow(-1, 0, 0)", x.arrow(-1, 0, 0), false);
        due.is("arrow(-1, 0, -1)", x.arrow(-1, 0, -1), false);
        due.is("arrow(0, -1, -1)", x.arrow(0, -1, -1), false);
        x.kind(0, 1);
        Samples.edit(x, 0, 0, "0");
        due.found("0", x, "0!/1");
    }

    /** "false if there is no such state or symbol": not that of the row's next or last state. */
    private static void noOtherArrowIsMeant() {
        int[][] wrong = {{0, 10}, {1, -1}, {0, 20}, {-1, 19}, {20, -10}, {-1, 10}, {2, -10}};
        for (int[] one : wrong) {
            EditedScanner x = new EditedScanner();
            due.is("arrow(" + one[0] + ", " + one[1] + ", 0)", x.arrow(one[0], one[1], 0), false);
            x.kind(0, 1);
            x.kind(1, 1);
            x.arrow(0, 5, 1);
            Samples.edit(x, 0, 0, "50");
            due.found("50 behind " + one[0] + ", " + one[1], x, "0+1:1/2 1!/1");
            Samples.edit(x, 0, 2, "9");
            due.found("9 behind " + one[0] + ", " + one[1], x, "0!/1");
        }
    }

    /** "or the text is not empty": with one symbol, with 400, with tokens or a failure. */
    private static void aTextOfAnySizeRefuses() {
        EditedScanner one = Samples.zeros();
        one.edit(0, 0, 0L, 1);
        EditedScanner failed = Samples.zeros();
        failed.edit(0, 0, 1L, 1);
        EditedScanner[] texts = {one, failed, Samples.fullOfSingles(), Samples.fullOfZeros(),
            Samples.fullWithFailure()};
        for (EditedScanner x : texts) {
            int size = x.count(1);
            due.is("arrow(0, 0, 0) at size " + size, x.arrow(0, 0, 0), false);
            due.is("arrow(0, 0, -1) at size " + size, x.arrow(0, 0, -1), false);
            due.is("arrow(19, 9, 19) at size " + size, x.arrow(19, 9, 19), false);
            due.is("arrow(20, 9, 19) at size " + size, x.arrow(20, 9, 19), false);
            x.edit(0, size, 0L, 0);
            due.is("arrow(0, 0, 0) when emptied", x.arrow(0, 0, 0), true);
        }
        EditedScanner edited = Samples.zeros();
        edited.edit(0, 0, 0L, 0);
        due.is("arrow behind an edit of nothing", edited.arrow(0, 0, 0), true);
    }
}
