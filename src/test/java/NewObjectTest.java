/** Promise 1: nothing leads anywhere; an empty text. */
public final class NewObjectTest {
    private static final Due due = new Due("NewObjectTest");

    public static void main(String[] args) {
        countsAreThoseOfAnEmptyText();
        thereAreNoTokensAndNoSymbols();
        nothingLeadsAnywhere();
        noStateHasAKind();
        objectsShareNothing();
        fromNoStateAnythingLeads();
        thereIsNothingAnywhere();
        due.end();
    }

    private static void countsAreThoseOfAnEmptyText() {
        EditedScanner x = new EditedScanner();
        int[] want = {0, 0, -1, 0, 0, 0, 0};
        for (int what = 0; what < want.length; what++) {
            due.is("count(" + what + ")", x.count(what), want[what]);
        }
        due.is("clear()", x.clear(), 0);
    }

    private static void thereAreNoTokensAndNoSymbols() {
        EditedScanner x = new EditedScanner();
        due.is("token(0, 0)", x.token(0, 0), -1);
        due.is("tokenAt(0)", x.tokenAt(0), -1);
        due.is("symbol(0)", x.symbol(0), -1);
    }

    private static void nothingLeadsAnywhere() {
        for (int symbol = 0; symbol < 10; symbol++) {
            EditedScanner x = new EditedScanner();
            for (int state = 0; state < 20; state++) {
                x.kind(state, 1);
            }
            due.is("edit of symbol " + symbol, x.edit(0, 0, symbol, 1), 1);
            due.found("symbol " + symbol, x, "0!/1");
        }
    }

    private static void noStateHasAKind() {
        for (int state = 0; state < 20; state++) {
            EditedScanner x = new EditedScanner();
            x.arrow(0, 1, state);
            Samples.edit(x, 0, 0, "12");
            due.found("12 by state " + state, x, "0!/2");
        }
    }

    private static void objectsShareNothing() {
        EditedScanner one = Samples.onesAndQuotes();
        EditedScanner other = new EditedScanner();
        Samples.edit(one, 0, 0, "1");
        due.is("count(1) of the other one", other.count(1), 0);
        Samples.edit(other, 0, 0, "11");
        due.found("11 in the other one", other, "0!/1");
        due.found("1 in the one", one, "0+1:7/2");
    }

    /** "Nothing leads anywhere": from no state, by no symbol. */
    private static void fromNoStateAnythingLeads() {
        for (int state = 0; state < 20; state++) {
            for (int symbol = 0; symbol < 10; symbol++) {
                EditedScanner x = new EditedScanner();
                x.arrow(0, 5, state);
                x.kind(state, 8);
                String digits = "5" + symbol;
                Samples.edit(x, 0, 0, digits);
                boolean circle = state == 0 && symbol == 5;
                due.found(digits + " by state " + state, x,
                    circle ? "0+2:8/3" : symbol == 5 ? "0+1:8/2 1+1:8/2" : "0+1:8/2 1!/1");
            }
        }
    }

    /** "an empty text": at no place, however far, there is anything. */
    private static void thereIsNothingAnywhere() {
        EditedScanner x = new EditedScanner();
        for (int any : new int[] {Integer.MIN_VALUE, -1, 0, 1, 399, 400, Integer.MAX_VALUE}) {
            for (int what = -1; what <= 4; what++) {
                due.is("token(" + any + ", " + what + ")", x.token(any, what), -1);
            }
            due.is("tokenAt(" + any + ")", x.tokenAt(any), -1);
            due.is("symbol(" + any + ")", x.symbol(any), -1);
        }
        due.is("edit(0, 1, 0, 0)", x.edit(0, 1, 0L, 0), -1);
        due.is("edit(1, 0, 0, 0)", x.edit(1, 0, 0L, 0), -1);
        due.is("arrow(0, 0, 0)", x.arrow(0, 0, 0), true);
        due.is("kind(0, 0)", x.kind(0, 0), true);
    }
}
