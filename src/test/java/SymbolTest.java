/** Promise 7: symbol. */
public final class SymbolTest {
    private static final Due due = new Due("SymbolTest");

    public static void main(String[] args) {
        everySymbolAtItsPlace();
        placesOutsideOfTheText();
        symbolsBehindAFailureAreThere();
        symbolsMoveWithEdits();
        aFullText();
        due.end();
    }

    private static void row(EditedScanner x, String want) {
        due.is("count(1)", x.count(1), want.length());
        for (int place = 0; place < want.length(); place++) {
            due.is("symbol(" + place + ")", x.symbol(place), want.charAt(place) - '0');
        }
        due.is("symbol(" + want.length() + ")", x.symbol(want.length()), -1);
    }

    private static void everySymbolAtItsPlace() {
        EditedScanner x = Samples.singles();
        Samples.edit(x, 0, 0, "8012345678765432");
        row(x, "8012345678765432");
    }

    private static void placesOutsideOfTheText() {
        EditedScanner x = Samples.singles();
        Samples.edit(x, 0, 0, "123");
        int[] outside = {-1, -2, 3, 4, 399, 400, 401, Integer.MIN_VALUE, Integer.MAX_VALUE};
        for (int place : outside) {
            due.is("symbol(" + place + ")", x.symbol(place), -1);
        }
        Samples.edit(x, 1, 2, "");
        row(x, "1");
    }

    private static void symbolsBehindAFailureAreThere() {
        EditedScanner x = Samples.singles();
        Samples.edit(x, 0, 0, "19900");
        row(x, "19900");
        Samples.edit(x, 4, 0, "57");
        row(x, "1990570");
        Samples.edit(x, 3, 2, "");
        row(x, "19970");
    }

    private static void symbolsMoveWithEdits() {
        EditedScanner x = Samples.singles();
        Samples.edit(x, 0, 0, "12345");
        Samples.edit(x, 2, 1, "678");
        row(x, "1267845");
        Samples.edit(x, 1, 4, "0");
        row(x, "1045");
        Samples.edit(x, 4, 0, "88");
        row(x, "104588");
        Samples.edit(x, 0, 2, "73");
        row(x, "734588");
    }

    private static void aFullText() {
        EditedScanner x = Samples.singles();
        StringBuilder want = new StringBuilder();
        for (int i = 0; i < 25; i++) {
            Samples.edit(x, 16 * i, 0, "0123456780123456");
            want.append("0123456780123456");
        }
        due.is("count(1)", x.count(1), 400);
        for (int place = 0; place < 400; place++) {
            due.is("symbol(" + place + ")", x.symbol(place), want.charAt(place) - '0');
        }
        due.is("symbol(400)", x.symbol(400), -1);
    }
}
