import java.util.List;

/** Promise 9: clear. */
public final class ClearTest {
    private static final Due due = new Due("ClearTest");

    public static void main(String[] args) {
        itTellsHowManyTokensThereWere();
        itIsAsNew();
        nothingLeadsAnywhere();
        noStateHasAKind();
        itIsUsedAgain();
        boundsOfItsAnswer();
        everyAnswerIsThatOfANewObject();
        aFullTextIsEmptyAgain();
        due.end();
    }

    private static void itTellsHowManyTokensThereWere() {
        EditedScanner x = Samples.singles();
        due.is("clear() of an empty text", x.clear(), 0);
        EditedScanner y = Samples.singles();
        Samples.edit(y, 0, 0, "12345");
        due.is("clear() of five", y.clear(), 5);
        due.is("clear() again", y.clear(), 0);
        EditedScanner z = Samples.singles();
        Samples.edit(z, 0, 0, "12945");
        due.is("clear() of two and a failure", z.clear(), 2);
    }

    private static void itIsAsNew() {
        EditedScanner x = Samples.singles();
        Samples.edit(x, 0, 0, "12945");
        x.clear();
        int[] want = {0, 0, -1, 0, 0, 0, 0};
        for (int what = 0; what < want.length; what++) {
            due.is("count(" + what + ")", x.count(what), want[what]);
        }
        due.is("symbol(0)", x.symbol(0), -1);
        due.is("token(0, 0)", x.token(0, 0), -1);
        due.is("tokenAt(0)", x.tokenAt(0), -1);
        due.is("edit(0, 1, 0, 0)", x.edit(0, 1, 0L, 0), -1);
    }

    /** From each state each symbol led on, before all was cleared. */
    private static EditedScanner clearedArrows() {
        EditedScanner x = new EditedScanner();
        for (int state = 0; state < 20; state++) {
            for (int symbol = 0; symbol < 10; symbol++) {
                x.arrow(state, symbol, state);
            }
        }
        x.clear();
        return x;
    }

    /** "nothing leads anywhere" */
    private static void nothingLeadsAnywhere() {
        EditedScanner first = clearedArrows();
        for (int symbol = 0; symbol < 10; symbol++) {
            due.is("edit of symbol " + symbol, first.edit(0, 0, symbol, 1), 1);
            first.edit(0, 1, 0L, 0);
        }
        for (int state = 1; state < 20; state++) {
            EditedScanner x = clearedArrows();
            x.arrow(0, 0, state);
            for (int symbol = 0; symbol < 10; symbol++) {
                due.is("edit by state " + state, x.edit(0, 0, symbol, 2), 2);
                x.edit(0, 2, 0L, 0);
            }
        }
    }

    /** "no state has a kind" */
    private static void noStateHasAKind() {
        for (int state = 0; state < 20; state++) {
            EditedScanner x = new EditedScanner();
            for (int other = 0; other < 20; other++) {
                x.kind(other, 33);
            }
            x.clear();
            x.arrow(0, 1, state);
            x.edit(0, 0, 0x12, 2);
            due.found("12 by state " + state, x, "0!/2");
        }
    }

    private static void itIsUsedAgain() {
        EditedScanner x = Samples.singles();
        Samples.edit(x, 0, 0, "123");
        x.clear();
        due.is("arrow(0, 1, 1)", x.arrow(0, 1, 1), true);
        due.is("kind(1, 60)", x.kind(1, 60), true);
        due.is("edit of 11", Samples.edit(x, 0, 0, "11"), 4);
        due.found("11", x, "0+1:60/2 1+1:60/2");
        due.is("count(6)", x.count(6), 1);
    }

    /** "how many tokens there were": none, one, 399 (a failure is none), 400. */
    private static void boundsOfItsAnswer() {
        due.is("clear() of a new object", new EditedScanner().clear(), 0);
        due.is("clear() of one token of 400", Samples.fullOfZeros().clear(), 1);
        due.is("clear() of 399 and a failure", Samples.fullWithFailure().clear(), 399);
        due.is("clear() of 400 tokens", Samples.fullOfSingles().clear(), 400);
        EditedScanner failed = Samples.singles();
        Samples.edit(failed, 0, 0, "91");
        due.is("clear() of a failure", failed.clear(), 0);
        EditedScanner emptied = Samples.fullOfSingles();
        emptied.edit(0, 400, 0L, 0);
        due.is("clear() of an emptied text", emptied.clear(), 0);
    }

    /** "The text is empty, .. there were no edits": every answer is that of a new object. */
    private static void everyAnswerIsThatOfANewObject() {
        for (List<Questions.Question> part : new Questions(400, 400).parts()) {
            int[] want = Questions.answers(part, new EditedScanner());
            EditedScanner[] texts = {Samples.fullOfSingles(), Samples.fullOfZeros(),
                Samples.fullWithFailure()};
            for (EditedScanner x : texts) {
                x.clear();
                int[] got = Questions.answers(part, x);
                for (int i = 0; i < got.length; i++) {
                    due.is(part.get(i).name() + " when cleared", got[i], want[i]);
                }
            }
        }
    }

    /** "The text is empty": the table can be set, 400 can be put in, none can be taken out. */
    private static void aFullTextIsEmptyAgain() {
        EditedScanner x = Samples.fullOfSingles();
        x.clear();
        due.is("edit(0, 1, 0, 0)", x.edit(0, 1, 0L, 0), -1);
        due.is("edit(1, 0, 0, 0)", x.edit(1, 0, 0L, 0), -1);
        due.is("arrow(0, 0, 0)", x.arrow(0, 0, 0), true);
        due.is("kind(0, 5)", x.kind(0, 5), true);
        for (int i = 0; i < 25; i++) {
            due.is("edit " + i, x.edit(0, 0, 0L, 16), 16 * i + 17);
        }
        due.found("400 0", x, "0+400:5/401");
        due.is("count(6)", x.count(6), 25);
        due.is("clear()", x.clear(), 1);
        due.is("clear() again", x.clear(), 0);
    }
}
