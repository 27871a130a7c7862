/** Promise 1: nothing leads anywhere; an empty text. */
public final class NewObjectTest {
    private static final Due due = new Due("NewObjectTest");

    public static void main(String[] args) {
        countsAreThoseOfAnEmptyText();
        thereAreNoTokensAndNoSymbols();
        nothingLeadsAnywhere();
        noStateHasAKind();
        objectsShareNothing();
        due.end();
    }

    private static void countsAreThoseOfAnEmptyText() {
        EditedScanner x = new EditedScanner();
        int[] want = {0, 0, -1, 0, 0, 0, 0};
        for (int what = 0; what < want.length; what++) {
            due.is("count(" + what + ")", x.count(what), want[what]);
        }
        due.is("clear()", x.clear(), 0);
    }

    private static void thereAreNoTokensAndNoSymbols() {
        EditedScanner x = new EditedScanner();
        due.is("token(0, 0)", x.token(0, 0), -1);
        due.is("tokenAt(0)", x.tokenAt(0), -1);
        due.is("symbol(0)", x.symbol(0), -1);
    }

    private static void nothingLeadsAnywhere() {
        for (int symbol = 0; symbol < 10; symbol++) {
            EditedScanner x = new EditedScanner();
            for (int state = 0; state < 20; state++) {
                x.kind(state, 1);
            }
            due.is("edit of symbol " + symbol, x.edit(0, 0, symbol, 1), 1);
            due.found("symbol " + symbol, x, "0!/1");
        }
    }

    private static void noStateHasAKind() {
        for (int state = 0; state < 20; state++) {
            EditedScanner x = new EditedScanner();
            x.arrow(0, 1, state);
            Samples.edit(x, 0, 0, "12");
            due.found("12 by state " + state, x, "0!/2");
        }
    }

    private static void objectsShareNothing() {
        EditedScanner one = Samples.onesAndQuotes();
        EditedScanner other = new EditedScanner();
        Samples.edit(one, 0, 0, "1");
        due.is("count(1) of the other one", other.count(1), 0);
        Samples.edit(other, 0, 0, "11");
        due.found("11 in the other one", other, "0!/1");
        due.found("1 in the one", one, "0+1:7/2");
    }
}
