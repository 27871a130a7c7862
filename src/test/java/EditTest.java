/** Promise 4: edit, and with it what is scanned anew and what is read. */
public final class EditTest {
    private static final Due due = new Due("EditTest");

    public static void main(String[] args) {
        theFirstSymbolIsHighest();
        bitsAboveAreNotSeen();
        wrongOnesAreRefused();
        noSymbolIsAboveNine();
        aRefusedOneChangesNothing();
        atMostFourHundred();
        aTokenThatLookedAtThePlaceIsScanned();
        aTokenThatLookedFarIsTheFirst();
        oldTokensStayBehindTheEdit();
        oldTokensStayJustBehindWhatIsPutIn();
        noneBeginsAmongWhatIsPutIn();
        oldBeginsAmongWhatIsTakenOutDoNotCount();
        theFirstOneIsOldAtOnce();
        theOldFailureStays();
        theOldFailureIsNotSeen();
        theOldEndEndsIt();
        behindAFailureNothingIsScanned();
        nothingOutAndNothingIn();
        theEmptyText();
        due.end();
    }

    private static void edit(EditedScanner x, int place, int out, String in, int read, int anew) {
        String name = "edit(" + place + ", " + out + ", " + in + ")";
        due.is(name, Samples.edit(x, place, out, in), read);
        due.is(name + " count(4)", x.count(4), read);
        due.is(name + " count(5)", x.count(5), anew);
    }

    private static void text(EditedScanner x, String want) {
        due.is("symbols " + Samples.symbols(x) + " are " + want,
            Samples.symbols(x).equals(want), true);
    }

    private static void theFirstSymbolIsHighest() {
        EditedScanner x = Samples.singles();
        x.edit(0, 0, 0x123L, 3);
        text(x, "123");
        x.edit(1, 0, 0x45L, 4);
        text(x, "1004523");
        EditedScanner y = new EditedScanner();
        y.edit(0, 0, 0x9876543210987654L, 16);
        text(y, "9876543210987654");
    }

    private static void bitsAboveAreNotSeen() {
        EditedScanner x = Samples.singles();
        due.is("edit of 1 below fs", x.edit(0, 0, 0xfffffffffffffff1L, 1), 2);
        text(x, "1");
        due.is("edit of nothing below fs", x.edit(1, 0, -1L, 0), 2);
        text(x, "1");
        due.is("edit of 15 below f", x.edit(1, 0, 0xf123456781234567L, 15), 32);
        text(x, "1123456781234567");
    }

    private static void wrongOnesAreRefused() {
        EditedScanner x = Samples.singles();
        Samples.edit(x, 0, 0, "1234");
        int[] noLength = {-1, -2, 17, 18, 400, Integer.MIN_VALUE, Integer.MAX_VALUE};
        for (int n : noLength) {
            due.is("n " + n, x.edit(0, 0, 0L, n), -1);
        }
        int[] noPlace = {-1, -2, 5, 6, 400, Integer.MIN_VALUE, Integer.MAX_VALUE};
        for (int place : noPlace) {
            due.is("place " + place, x.edit(place, 0, 0L, 1), -1);
            due.is("place " + place + " with out", x.edit(place, 1, 0L, 1), -1);
            due.is("place " + place + " with none", x.edit(place, 0, 0L, 0), -1);
            due.is("place " + place + " with less", x.edit(place, -place, 0L, 0), -1);
        }
        int[] noOut = {-1, -2, 3, 4, 5, Integer.MIN_VALUE, Integer.MAX_VALUE};
        for (int out : noOut) {
            due.is("out " + out, x.edit(2, out, 0L, 1), -1);
        }
        due.is("out and place wrap", x.edit(Integer.MAX_VALUE, Integer.MAX_VALUE, 0L, 0), -1);
        text(x, "1234");
    }

    private static void noSymbolIsAboveNine() {
        for (int n = 1; n <= 16; n++) {
            EditedScanner x = Samples.singles();
            for (int i = 0; i < n; i++) {
                for (long nibble = 10; nibble < 16; nibble++) {
                    String name = nibble + " as symbol " + i + " from behind of " + n;
                    due.is(name, x.edit(0, 0, nibble << 4 * i, n), -1);
                }
            }
            due.is("count(1)", x.count(1), 0);
            due.is("nines", x.edit(0, 0, 0x9999999999999999L, n), 1);
        }
    }

    private static void aRefusedOneChangesNothing() {
        EditedScanner x = Samples.onesAndQuotes();
        Samples.edit(x, 0, 0, "11253");
        String before = Samples.found(x);
        x.edit(0, 1, 0x1a1L, 3);
        x.edit(0, 6, 0x11L, 2);
        x.edit(5, 1, 0x11L, 2);
        x.edit(-1, 1, 0x11L, 2);
        x.edit(0, 1, 0x11L, 17);
        text(x, "11253");
        due.found("refused edits", x, before);
        due.is("count(4)", x.count(4), 6);
        due.is("count(5)", x.count(5), 2);
        due.is("count(6)", x.count(6), 1);
        due.is("arrow", x.arrow(0, 0, 0), false);
    }

    private static void atMostFourHundred() {
        EditedScanner x = Samples.zeros();
        for (int i = 0; i < 24; i++) {
            x.edit(0, 0, 0L, 16);
        }
        due.is("edit to 399", x.edit(384, 0, 0L, 15), 400);
        due.is("edit to 401", x.edit(0, 0, 0L, 2), -1);
        due.is("edit to 400", x.edit(0, 0, 0L, 1), 401);
        due.is("edit to 401", x.edit(0, 0, 0L, 1), -1);
        due.is("edit to 401", x.edit(400, 0, 0L, 1), -1);
        due.is("edit to 401", x.edit(7, 15, 0L, 16), -1);
        due.is("edit at 400 of none", x.edit(400, 0, 0L, 0), 401);
        due.is("edit at 401 of none", x.edit(401, 0, 0L, 0), -1);
        due.is("edit of 16 for 16", x.edit(384, 16, 0L, 16), 401);
        due.is("edit of 400 out", x.edit(0, 400, 0L, 16), 17);
        due.is("count(1)", x.count(1), 16);
        due.is("count(6)", x.count(6), 29);
    }

    private static void aTokenThatLookedAtThePlaceIsScanned() {
        EditedScanner x = Samples.singles();
        edit(x, 0, 0, "1234", 8, 4);
        edit(x, 2, 1, "5", 4, 2);
        due.found("1254", x, "0+1:11/2 1+1:12/2 2+1:15/2 3+1:14/2");
        edit(x, 4, 0, "6", 4, 2);
        edit(x, 0, 1, "7", 2, 1);
    }

    /** The first token looks at all 1s behind it, up to an end or a 2. */
    private static void aTokenThatLookedFarIsTheFirst() {
        EditedScanner x = Samples.onesAndQuotes();
        x.arrow(1, 1, -1);
        edit(x, 0, 0, "21111", 6 + 2 * 4, 5);
        edit(x, 5, 0, "3", 6 + 2 * 4 + 1, 5);
        due.found("211113", x, "0+1:3/6 1+1:7/2 2+1:7/2 3+1:7/2 4+1:7/2 5!/1");
        // From the first one on, and each of those ahead of the edit, but not the 1 behind it.
        edit(x, 3, 1, "1", 6 + 2 * 3, 4);
        due.found("211113", x, "0+1:3/6 1+1:7/2 2+1:7/2 3+1:7/2 4+1:7/2 5!/1");
        edit(x, 5, 1, "2", 7, 1);
        due.found("211112", x, "0+6:9/7");
    }

    private static void oldTokensStayBehindTheEdit() {
        EditedScanner x = Samples.onesAndQuotes();
        edit(x, 0, 0, "2112211211", 5 + 5 + 3, 3);
        due.found("2112211211", x, "0+4:9/5 4+4:9/5 8+2:7/3");
        edit(x, 1, 0, "1", 6, 1);
        due.found("21112211211", x, "0+5:9/6 5+4:9/5 9+2:7/3");
        edit(x, 1, 2, "", 4, 1);
        due.found("212211211", x, "0+3:9/4 3+4:9/5 7+2:7/3");
        // The 2 that ended the first token is one of its own now; the one behind it is old.
        edit(x, 1, 1, "", 2 + 2, 2);
        due.found("22211211", x, "0+1:3/2 1+1:3/2 2+4:9/5 6+2:7/3");
    }

    private static void oldTokensStayJustBehindWhatIsPutIn() {
        EditedScanner x = Samples.singles();
        edit(x, 0, 0, "1234", 8, 4);
        edit(x, 0, 0, "56", 4, 2);
        due.found("561234", x, "0+1:15/2 1+1:16/2 2+1:11/2 3+1:12/2 4+1:13/2 5+1:14/2");
        edit(x, 6, 0, "78", 6, 3);
        edit(x, 3, 3, "", 2, 1);
        due.found("56178", x, "0+1:15/2 1+1:16/2 2+1:11/2 3+1:17/2 4+1:18/2");
    }

    /** An old token begins at the same place as one that is put in, but it is not old. */
    private static void noneBeginsAmongWhatIsPutIn() {
        EditedScanner x = Samples.singles();
        edit(x, 0, 0, "12345678", 16, 8);
        edit(x, 2, 0, "1234", 10, 5);
        edit(x, 2, 4, "5678", 10, 5);
        due.is("token(5, 2)", x.token(5, 2), 18);
        text(x, "125678345678");
    }

    private static void oldBeginsAmongWhatIsTakenOutDoNotCount() {
        EditedScanner x = Samples.singles();
        edit(x, 0, 0, "12345678", 16, 8);
        edit(x, 1, 5, "8", 4, 2);
        due.found("1878", x, "0+1:11/2 1+1:18/2 2+1:17/2 3+1:18/2");
        edit(x, 1, 2, "", 2, 1);
        due.found("18", x, "0+1:11/2 1+1:18/2");
    }

    private static void theFirstOneIsOldAtOnce() {
        EditedScanner x = Samples.onesAndQuotes();
        edit(x, 0, 0, "1112112211", 4 + 5 + 4 + 3, 4);
        due.found("1112112211", x, "0+3:7/4 3+4:9/5 7+1:3/4 8+2:7/3");
        edit(x, 0, 3, "", 0, 0);
        due.found("2112211", x, "0+4:9/5 4+1:3/4 5+2:7/3");
        edit(x, 0, 0, "", 0, 0);
        edit(x, 0, 5, "", 0, 0);
        due.found("11", x, "0+2:7/3");
        // Where one was put in, the first one is not old, though it begins where it did.
        edit(x, 0, 0, "2", 4, 1);
        due.found("211", x, "0+1:3/4 1+2:7/3");
        edit(x, 0, 2, "", 2, 1);
        due.found("1", x, "0+1:7/2");
    }

    private static void theOldFailureStays() {
        EditedScanner x = Samples.onesAndQuotes();
        edit(x, 0, 0, "11225", 3 + 2 + 2 + 1, 3);
        due.found("11225", x, "0+2:7/3 2+1:3/2 3+1:3/2 4!/1");
        edit(x, 1, 0, "1", 4, 1);
        due.found("111225", x, "0+3:7/4 3+1:3/2 4+1:3/2 5!/1");
        edit(x, 0, 3, "", 0, 0);
        due.found("225", x, "0+1:3/2 1+1:3/2 2!/1");
        edit(x, 0, 2, "", 0, 0);
        due.found("5", x, "0!/1");
        edit(x, 0, 0, "1", 2, 1);
        due.found("15", x, "0+1:7/2 1!/1");
    }

    /** Scanning anew goes past the old failure, up to the end. */
    private static void theOldFailureIsNotSeen() {
        EditedScanner x = new EditedScanner();
        x.arrow(0, 1, 1);
        x.kind(1, 1);
        x.arrow(0, 3, 2);
        x.arrow(2, 5, 3);
        x.kind(3, 2);
        edit(x, 0, 0, "1511", 3, 1);
        due.found("1511", x, "0+1:1/2 1!/1");
        edit(x, 1, 0, "3", 2 + 3 + 2 + 2, 4);
        due.found("13511", x, "0+1:1/2 1+2:2/3 3+1:1/2 4+1:1/2");
        edit(x, 1, 1, "", 3, 1);
        due.found("1511", x, "0+1:1/2 1!/1");
    }

    private static void theOldEndEndsIt() {
        EditedScanner x = Samples.onesAndQuotes();
        edit(x, 0, 0, "1122", 3 + 2 + 2, 3);
        edit(x, 3, 1, "", 2, 1);
        due.found("112", x, "0+2:7/3 2+1:3/2");
        edit(x, 0, 3, "", 0, 0);
        due.found("nothing", x, "");
        EditedScanner failed = Samples.singles();
        edit(failed, 0, 0, "1293", 5, 2);
        edit(failed, 0, 4, "", 0, 0);
        due.found("nothing", failed, "");
        due.is("count(2)", failed.count(2), -1);
    }

    private static void behindAFailureNothingIsScanned() {
        EditedScanner x = Samples.singles();
        edit(x, 0, 0, "1293", 5, 2);
        edit(x, 3, 1, "12", 0, 0);
        text(x, "12912");
        edit(x, 5, 0, "3", 0, 0);
        edit(x, 3, 3, "", 0, 0);
        text(x, "129");
        due.found("129", x, "0+1:11/2 1+1:12/2 2!/1");
        due.is("count(6)", x.count(6), 4);
        edit(x, 2, 0, "", 2, 1);
        due.found("129", x, "0+1:11/2 1+1:12/2 2!/1");
    }

    private static void nothingOutAndNothingIn() {
        EditedScanner x = Samples.onesAndQuotes();
        edit(x, 0, 0, "11211", 3 + 4 + 3, 3);
        edit(x, 0, 0, "", 0, 0);
        edit(x, 1, 0, "", 3, 1);
        edit(x, 2, 0, "", 3, 1);
        edit(x, 3, 0, "", 4, 1);
        edit(x, 5, 0, "", 4 + 3, 2);
        due.found("11211", x, "0+2:7/3 2+1:3/4 3+2:7/3");
        due.is("count(6)", x.count(6), 6);
    }

    private static void theEmptyText() {
        EditedScanner x = Samples.onesAndQuotes();
        edit(x, 0, 0, "", 0, 0);
        due.is("count(6)", x.count(6), 1);
        due.is("edit(1, 0, 0, 0)", x.edit(1, 0, 0L, 0), -1);
        due.is("edit(0, 1, 0, 0)", x.edit(0, 1, 0L, 0), -1);
        edit(x, 0, 0, "12", 4, 2);
        edit(x, 0, 2, "21", 4 + 1, 2);
        edit(x, 0, 2, "", 0, 0);
        edit(x, 0, 0, "3", 1, 0);
        due.found("3", x, "0!/1");
    }
}
