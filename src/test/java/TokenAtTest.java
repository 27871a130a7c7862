/** Promise 6: tokenAt. */
public final class TokenAtTest {
    private static final Due due = new Due("TokenAtTest");

    public static void main(String[] args) {
        everyPlaceOfTokens();
        placesOutsideOfTheText();
        placesFromTheFailureOn();
        placesBehindAnEdit();
        due.end();
    }

    private static void places(EditedScanner x, int... want) {
        for (int place = 0; place < want.length; place++) {
            due.is("tokenAt(" + place + ")", x.tokenAt(place), want[place]);
        }
    }

    private static void everyPlaceOfTokens() {
        EditedScanner x = Samples.onesAndQuotes();
        Samples.edit(x, 0, 0, "1112122");
        places(x, 0, 0, 0, 1, 1, 1, 2, -1, -1);
    }

    private static void placesOutsideOfTheText() {
        EditedScanner x = Samples.onesAndQuotes();
        due.is("tokenAt(0)", x.tokenAt(0), -1);
        Samples.edit(x, 0, 0, "11");
        int[] outside = {-1, -2, 2, 3, 399, 400, 401, Integer.MIN_VALUE, Integer.MAX_VALUE};
        for (int place : outside) {
            due.is("tokenAt(" + place + ")", x.tokenAt(place), -1);
        }
    }

    private static void placesFromTheFailureOn() {
        EditedScanner x = Samples.onesAndQuotes();
        Samples.edit(x, 0, 0, "11211");
        Samples.edit(x, 3, 0, "52");
        due.found("1125211", x, "0+2:7/3 2+1:3/2 3!/1");
        places(x, 0, 0, 1, -1, -1, -1, -1, -1);
    }

    private static void placesBehindAnEdit() {
        EditedScanner x = Samples.onesAndQuotes();
        Samples.edit(x, 0, 0, "2211122");
        places(x, 0, 1, 1, 1, 1, 1, 2, -1);
        Samples.edit(x, 0, 1, "");
        places(x, 0, 0, 0, 0, 0, 1, -1, -1);
        Samples.edit(x, 0, 6, "");
        places(x, -1, -1);
    }
}
