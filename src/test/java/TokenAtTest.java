/** Promise 6: tokenAt. */
public final class TokenAtTest {
    private static final Due due = new Due("TokenAtTest");

    public static void main(String[] args) {
        everyPlaceOfTokens();
        placesOutsideOfTheText();
        placesFromTheFailureOn();
        placesBehindAnEdit();
        edgesOfTokens();
        aFailureAtTheLastPlace();
        textsWithoutAnything();
        due.end();
    }

    private static void places(EditedScanner x, int... want) {
        for (int place = 0; place < want.length; place++) {
            due.is("tokenAt(" + place + ")", x.tokenAt(place), want[place]);
        }
    }

    private static void everyPlaceOfTokens() {
        EditedScanner x = Samples.onesAndQuotes();
        Samples.edit(x, 0, 0, "1112122");
        places(x, 0, 0, 0, 1, 1, 1, 2, -1, -1);
    }

    private static void placesOutsideOfTheText() {
        EditedScanner x = Samples.onesAndQuotes();
        due.is("tokenAt(0)", x.tokenAt(0), -1);
        Samples.edit(x, 0, 0, "11");
        int[] outside = {-1, -2, 2, 3, 399, 400, 401, Integer.MIN_VALUE, Integer.MAX_VALUE};
        for (int place : outside) {
            due.is("tokenAt(" + place + ")", x.tokenAt(place), -1);
        }
    }

    private static void placesFromTheFailureOn() {
        EditedScanner x = Samples.onesAndQuotes();
        Samples.edit(x, 0, 0, "11211");
        Samples.edit(x, 3, 0, "52");
        due.found("1125211", x, "0+2:7/3 2+1:3/2 3!/1");
        places(x, 0, 0, 1, -1, -1, -1, -1, -1);
    }

    private static void placesBehindAnEdit() {
        EditedScanner x = Samples.onesAndQuotes();
        Samples.edit(x, 0, 0, "2211122");
        places(x, 0, 1, 1, 1, 1, 1, 2, -1);
        Samples.edit(x, 0, 1, "");
        places(x, 0, 0, 0, 0, 0, 1, -1, -1);
        Samples.edit(x, 0, 6, "");
        places(x, -1, -1);
    }

    /** "The token in which a place lies": its first and its last place, and those beside them. */
    private static void edgesOfTokens() {
        EditedScanner x = Samples.fullOfSingles();
        for (int place = 0; place < 400; place++) {
            due.is("tokenAt(" + place + ")", x.tokenAt(place), place);
        }
        outside(x, 400);
        EditedScanner y = Samples.fullOfZeros();
        for (int place = 0; place < 400; place++) {
            due.is("tokenAt(" + place + ")", y.tokenAt(place), 0);
        }
        outside(y, 400);
    }

    /** "-1 if it lies in none": at the failure, and from there on. */
    private static void aFailureAtTheLastPlace() {
        EditedScanner x = Samples.fullWithFailure();
        due.is("tokenAt(398)", x.tokenAt(398), 398);
        due.is("tokenAt(399)", x.tokenAt(399), -1);
        outside(x, 399);
        EditedScanner y = Samples.singles();
        Samples.edit(y, 0, 0, "9123");
        outside(y, 0);
        due.is("tokenAt(2)", y.tokenAt(2), -1);
    }

    private static void textsWithoutAnything() {
        outside(new EditedScanner(), 0);
        outside(Samples.zeros(), 0);
        EditedScanner emptied = Samples.fullOfSingles();
        emptied.edit(0, 400, 0L, 0);
        outside(emptied, 0);
        EditedScanner cleared = Samples.fullOfSingles();
        cleared.clear();
        outside(cleared, 0);
    }

    private static void outside(EditedScanner x, int end) {
        int[] places = {Integer.MIN_VALUE, -400, -1, end, end + 1, 400, 401, Integer.MAX_VALUE};
        for (int place : places) {
            due.is("tokenAt(" + place + ") behind " + end, x.tokenAt(place), -1);
        }
    }
}
