/** Promise 8: count. */
public final class CountTest {
    private static final Due due = new Due("CountTest");

    public static void main(String[] args) {
        eachWhatWithoutFailure();
        eachWhatWithFailure();
        theFailureGoes();
        itIsOfTheLastEdit();
        refusedEditsDoNotCount();
        anotherWhat();
        countsOfFullTexts();
        whereScanningFailed();
        whatTheFailureLookedAt();
        aFailureScannedAnewIsNoToken();
        everyEditCounts();
        anotherWhatOfAnyText();
        due.end();
    }

    private static void counts(String after, EditedScanner x, int... want) {
        for (int what = 0; what < want.length; what++) {
            due.is("after " + after + " count(" + what + ")", x.count(what), want[what]);
        }
    }

    private static void eachWhatWithoutFailure() {
        EditedScanner x = Samples.onesAndQuotes();
        counts("nothing", x, 0, 0, -1, 0, 0, 0, 0);
        Samples.edit(x, 0, 0, "111212");
        counts("111212", x, 2, 6, -1, 0, 8, 2, 1);
    }

    private static void eachWhatWithFailure() {
        EditedScanner x = Samples.onesAndQuotes();
        x.arrow(0, 5, 10);
        x.arrow(10, 1, 11);
        Samples.edit(x, 0, 0, "2251311");
        // 2 looks at 2 2; the next 2 at 2 5; 5 1 3 leads nowhere at 3.
        counts("2251311", x, 2, 7, 2, 3, 7, 2, 1);
        EditedScanner y = Samples.onesAndQuotes();
        y.arrow(0, 5, 10);
        Samples.edit(y, 0, 0, "5");
        counts("5", y, 0, 1, 0, 2, 2, 0, 1);
    }

    private static void theFailureGoes() {
        EditedScanner x = Samples.singles();
        Samples.edit(x, 0, 0, "1293");
        counts("1293", x, 2, 4, 2, 1, 5, 2, 1);
        Samples.edit(x, 2, 1, "4");
        // 2 looked at the 9; it, 4 and 3 are scanned anew, as nothing old is behind the failure.
        counts("1243", x, 4, 4, -1, 0, 6, 3, 2);
        Samples.edit(x, 3, 1, "9");
        counts("1249", x, 3, 4, 3, 1, 3, 1, 3);
        Samples.edit(x, 3, 1, "");
        counts("124", x, 3, 3, -1, 0, 2, 1, 4);
    }

    private static void itIsOfTheLastEdit() {
        EditedScanner x = Samples.singles();
        Samples.edit(x, 0, 0, "19");
        counts("19", x, 1, 2, 1, 1, 3, 1, 1);
        Samples.edit(x, 2, 0, "1111");
        counts("191111", x, 1, 6, 1, 1, 0, 0, 2);
        x.symbol(0);
        x.token(0, 0);
        x.tokenAt(0);
        x.arrow(0, 0, 0);
        x.kind(0, 0);
        counts("191111 and looks", x, 1, 6, 1, 1, 0, 0, 2);
    }

    private static void refusedEditsDoNotCount() {
        EditedScanner x = Samples.singles();
        Samples.edit(x, 0, 0, "123");
        x.edit(4, 0, 1L, 1);
        x.edit(0, 4, 1L, 1);
        x.edit(0, 0, 15L, 1);
        x.edit(0, 0, 1L, 17);
        counts("123 and refused ones", x, 3, 3, -1, 0, 6, 3, 1);
    }

    private static void anotherWhat() {
        EditedScanner x = Samples.singles();
        Samples.edit(x, 0, 0, "1293");
        int[] noWhat = {-1, -2, 7, 8, 100, Integer.MIN_VALUE, Integer.MAX_VALUE};
        for (int what : noWhat) {
            due.is("count(" + what + ")", x.count(what), -1);
        }
    }

    private static void countsOfFullTexts() {
        counts("400 tokens", Samples.fullOfSingles(), 400, 400, -1, 0, 34, 17, 25);
        counts("one token of 400", Samples.fullOfZeros(), 1, 400, -1, 0, 401, 1, 25);
        counts("399 and a failure", Samples.fullWithFailure(), 399, 400, 399, 1, 3, 1, 26);
    }

    /** "2 where scanning failed (-1: it did not)": at the first, the last place, and not. */
    private static void whereScanningFailed() {
        EditedScanner x = Samples.fullOfSingles();
        due.is("count(2) of none", x.count(2), -1);
        x.edit(399, 1, 9L, 1);
        due.is("count(2) at the last", x.count(2), 399);
        x.edit(0, 1, 9L, 1);
        due.is("count(2) at the first", x.count(2), 0);
        x.edit(0, 1, 0L, 1);
        due.is("count(2) at the last again", x.count(2), 399);
        x.edit(399, 1, 0L, 1);
        due.is("count(2) of none again", x.count(2), -1);
        x.edit(0, 1, 9L, 1);
        x.edit(0, 400, 0L, 0);
        due.is("count(2) of no text", x.count(2), -1);
        due.is("count(3) of no text", x.count(3), 0);
    }

    /** "3 how many it looked at there (0)", the end, too. */
    private static void whatTheFailureLookedAt() {
        EditedScanner x = Samples.zeros();
        x.kind(0, -1);
        due.is("count(3) of no text", x.count(3), 0);
        for (int i = 0; i < 25; i++) {
            x.edit(0, 0, 0L, 16);
        }
        counts("400 that lead nowhere", x, 0, 400, 0, 401, 401, 0, 25);
        x.edit(0, 1, 1L, 1);
        due.is("count(3) of one that leads nowhere", x.count(3), 1);
        x.edit(0, 400, 0L, 0);
        due.is("count(3) of no text again", x.count(3), 0);
    }

    /** "5 tokens that it scanned anew (a failure is none)" */
    private static void aFailureScannedAnewIsNoToken() {
        EditedScanner x = Samples.onesAndQuotes();
        x.arrow(0, 4, 5);
        Samples.edit(x, 0, 0, "4");
        counts("4", x, 0, 1, 0, 2, 2, 0, 1);
        Samples.edit(x, 1, 0, "1");
        counts("41", x, 0, 2, 0, 2, 2, 0, 2);
        Samples.edit(x, 0, 0, "1");
        counts("141", x, 1, 3, 1, 2, 2, 1, 3);
        Samples.edit(x, 2, 0, "");
        counts("141 and nothing", x, 1, 3, 1, 2, 2, 0, 4);
    }

    /** "6 edits": those that read nothing, or change nothing, too. */
    private static void everyEditCounts() {
        EditedScanner x = Samples.singles();
        x.edit(0, 0, 0L, 0);
        counts("nothing", x, 0, 0, -1, 0, 0, 0, 1);
        x.edit(0, 0, 9L, 1);
        x.edit(1, 0, 9L, 1);
        counts("nothing read", x, 0, 2, 0, 1, 0, 0, 3);
        x.edit(0, 1, 9L, 1);
        counts("the same put in again", x, 0, 2, 0, 1, 1, 0, 4);
        x.edit(0, 2, 0L, 0);
        counts("all taken out", x, 0, 0, -1, 0, 0, 0, 5);
    }

    /** "-1 for another what", of any text. */
    private static void anotherWhatOfAnyText() {
        EditedScanner[] texts = {new EditedScanner(), Samples.fullOfSingles(),
            Samples.fullOfZeros(), Samples.fullWithFailure()};
        for (EditedScanner x : texts) {
            for (int what : new int[] {Integer.MIN_VALUE, -1, 7, 8, 400, Integer.MAX_VALUE}) {
                due.is("count(" + what + ")", x.count(what), -1);
            }
        }
    }
}
