/** Promise 9: clear. */
public final class ClearTest {
    private static final Due due = new Due("ClearTest");

    public static void main(String[] args) {
        itTellsHowManyTokensThereWere();
        itIsAsNew();
        nothingLeadsAnywhere();
        noStateHasAKind();
        itIsUsedAgain();
        due.end();
    }

    private static void itTellsHowManyTokensThereWere() {
        EditedScanner x = Samples.singles();
        due.is("clear() of an empty text", x.clear(), 0);
        EditedScanner y = Samples.singles();
        Samples.edit(y, 0, 0, "12345");
        due.is("clear() of five", y.clear(), 5);
        due.is("clear() again", y.clear(), 0);
        EditedScanner z = Samples.singles();
        Samples.edit(z, 0, 0, "12945");
        due.is("clear() of two and a failure", z.clear(), 2);
    }

    private static void itIsAsNew() {
        EditedScanner x = Samples.singles();
        Samples.edit(x, 0, 0, "12945");
        x.clear();
        int[] want = {0, 0, -1, 0, 0, 0, 0};
        for (int what = 0; what < want.length; what++) {
            due.is("count(" + what + ")", x.count(what), want[what]);
        }
        due.is("symbol(0)", x.symbol(0), -1);
        due.is("token(0, 0)", x.token(0, 0), -1);
        due.is("tokenAt(0)", x.tokenAt(0), -1);
        due.is("edit(0, 1, 0, 0)", x.edit(0, 1, 0L, 0), -1);
    }

    /** From each state each symbol led on, before all was cleared. */
    private static EditedScanner clearedArrows() {
        EditedScanner x = new EditedScanner();
        for (int state = 0; state < 20; state++) {
            for (int symbol = 0; symbol < 10; symbol++) {
                x.arrow(state, symbol, state);
            }
        }
        x.clear();
        return x;
    }

    private static void nothingLeadsAnywhere() {
        EditedScanner first = clearedArrows();
        for (int symbol = 0; symbol < 10; symbol++) {
            due.is("edit of symbol " + symbol, first.edit(0, 0, symbol, 1), 1);
            first.edit(0, 1, 0L, 0);
        }
        for (int state = 1; state < 20; state++) {
            EditedScanner x = clearedArrows();
            x.arrow(0, 0, state);
            for (int symbol = 0; symbol < 10; symbol++) {
                due.is("edit by state " + state, x.edit(0, 0, symbol, 2), 2);
                x.edit(0, 2, 0L, 0);
            }
        }
    }

    private static void noStateHasAKind() {
        for (int state = 0; state < 20; state++) {
            EditedScanner x = new EditedScanner();
            for (int other = 0; other < 20; other++) {
                x.kind(other, 33);
            }
            x.clear();
            x.arrow(0, 1, state);
            x.edit(0, 0, 0x12, 2);
            due.found("12 by state " + state, x, "0!/2");
        }
    }

    private static void itIsUsedAgain() {
        EditedScanner x = Samples.singles();
        Samples.edit(x, 0, 0, "123");
        x.clear();
        due.is("arrow(0, 1, 1)", x.arrow(0, 1, 1), true);
        due.is("kind(1, 60)", x.kind(1, 60), true);
        due.is("edit of 11", Samples.edit(x, 0, 0, "11"), 4);
        due.found("11", x, "0+1:60/2 1+1:60/2");
        due.is("count(6)", x.count(6), 1);
    }
}
