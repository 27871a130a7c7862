/** Promise 7: symbol. */
public final class SymbolTest {
    private static final Due due = new Due("SymbolTest");

    public static void main(String[] args) {
        everySymbolAtItsPlace();
        placesOutsideOfTheText();
        symbolsBehindAFailureAreThere();
        symbolsMoveWithEdits();
        aFullText();
        boundsOfPlaces();
        boundsOfSymbols();
        due.end();
    }

    private static void row(EditedScanner x, String want) {
        due.is("count(1)", x.count(1), want.length());
        for (int place = 0; place < want.length(); place++) {
            due.is("symbol(" + place + ")", x.symbol(place), want.charAt(place) - '0');
        }
        due.is("symbol(" + want.length() + ")", x.symbol(want.length()), -1);
    }

    private static void everySymbolAtItsPlace() {
        EditedScanner x = Samples.singles();
        Samples.edit(x, 0, 0, "8012345678765432");
        row(x, "8012345678765432");
    }

    private static void placesOutsideOfTheText() {
        EditedScanner x = Samples.singles();
        Samples.edit(x, 0, 0, "123");
        int[] outside = {-1, -2, 3, 4, 399, 400, 401, Integer.MIN_VALUE, Integer.MAX_VALUE};
        for (int place : outside) {
            due.is("symbol(" + place + ")", x.symbol(place), -1);
        }
        Samples.edit(x, 1, 2, "");
        row(x, "1");
    }

    private static void symbolsBehindAFailureAreThere() {
        EditedScanner x = Samples.singles();
        Samples.edit(x, 0, 0, "19900");
        row(x, "19900");
        Samples.edit(x, 4, 0, "57");
        row(x, "1990570");
        Samples.edit(x, 3, 2, "");
        row(x, "19970");
    }

    private static void symbolsMoveWithEdits() {
        EditedScanner x = Samples.singles();
        Samples.edit(x, 0, 0, "12345");
        Samples.edit(x, 2, 1, "678");
        row(x, "1267845");
        Samples.edit(x, 1, 4, "0");
        row(x, "1045");
        Samples.edit(x, 4, 0, "88");
        row(x, "104588");
        Samples.edit(x, 0, 2, "73");
        row(x, "734588");
    }

    private static void aFullText() {
        EditedScanner x = Samples.singles();
        StringBuilder want = new StringBuilder();
        for (int i = 0; i < 25; i++) {
            Samples.edit(x, 16 * i, 0, "0123456780123456");
            want.append("0123456780123456");
        }
        due.is("count(1)", x.count(1), 400);
        for (int place = 0; place < 400; place++) {
            due.is("symbol(" + place + ")", x.symbol(place), want.charAt(place) - '0');
        }
        due.is("symbol(400)", x.symbol(400), -1);
    }

    /** "-1 if there is none": in empty texts of each sort, and around one of 400. */
    private static void boundsOfPlaces() {
        outside(new EditedScanner(), 0);
        outside(Samples.singles(), 0);
        outside(Samples.fullOfSingles(), 400);
        outside(Samples.fullWithFailure(), 400);
        EditedScanner shrunk = Samples.fullOfSingles();
        shrunk.edit(399, 1, 0L, 0);
        outside(shrunk, 399);
        due.is("symbol(398)", shrunk.symbol(398), 398 % 9);
        shrunk.edit(0, 399, 0L, 0);
        outside(shrunk, 0);
        EditedScanner cleared = Samples.fullOfSingles();
        cleared.clear();
        outside(cleared, 0);
    }

    private static void outside(EditedScanner x, int end) {
        int[] places = {Integer.MIN_VALUE, -400, -1, end, end + 1, 400, 401, Integer.MAX_VALUE};
        for (int place : places) {
            due.is("symbol(" + place + ") behind " + end, x.symbol(place), -1);
        }
    }

    /** The lowest and the highest symbol, at the first and the last place of a full text. */
    private static void boundsOfSymbols() {
        EditedScanner x = Samples.fullOfSingles();
        x.edit(0, 1, 9L, 1);
        x.edit(399, 1, 9L, 1);
        due.is("symbol(0)", x.symbol(0), 9);
        due.is("symbol(399)", x.symbol(399), 9);
        x.edit(0, 1, 0L, 1);
        x.edit(399, 1, 0L, 1);
        due.is("symbol(0)", x.symbol(0), 0);
        due.is("symbol(399)", x.symbol(399), 0);
        due.is("symbol(1)", x.symbol(1), 1);
        due.is("symbol(398)", x.symbol(398), 398 % 9);
    }
}
