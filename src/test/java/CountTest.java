/** Promise 8: count. */
public final class CountTest {
    private static final Due due = new Due("CountTest");

    public static void main(String[] args) {
        eachWhatWithoutFailure();
        eachWhatWithFailure();
        theFailureGoes();
        itIsOfTheLastEdit();
        refusedEditsDoNotCount();
        anotherWhat();
        due.end();
    }

    private static void counts(String after, EditedScanner x, int... want) {
        for (int what = 0; what < want.length; what++) {
            due.is("after " + after + " count(" + what + ")", x.count(what), want[what]);
        }
    }

    private static void eachWhatWithoutFailure() {
        EditedScanner x = Samples.onesAndQuotes();
        counts("nothing", x, 0, 0, -1, 0, 0, 0, 0);
        Samples.edit(x, 0, 0, "111212");
        counts("111212", x, 2, 6, -1, 0, 8, 2, 1);
    }

    private static void eachWhatWithFailure() {
        EditedScanner x = Samples.onesAndQuotes();
        x.arrow(0, 5, 10);
        x.arrow(10, 1, 11);
        Samples.edit(x, 0, 0, "2251311");
        // 2 looks at 2 2; the next 2 at 2 5; 5 1 3 leads nowhere at 3.
        counts("2251311", x, 2, 7, 2, 3, 7, 2, 1);
        EditedScanner y = Samples.onesAndQuotes();
        y.arrow(0, 5, 10);
        Samples.edit(y, 0, 0, "5");
        counts("5", y, 0, 1, 0, 2, 2, 0, 1);
    }

    private static void theFailureGoes() {
        EditedScanner x = Samples.singles();
        Samples.edit(x, 0, 0, "1293");
        counts("1293", x, 2, 4, 2, 1, 5, 2, 1);
        Samples.edit(x, 2, 1, "4");
        // 2 looked at the 9; it, 4 and 3 are scanned anew, as nothing old is behind the failure.
        counts("1243", x, 4, 4, -1, 0, 6, 3, 2);
        Samples.edit(x, 3, 1, "9");
        counts("1249", x, 3, 4, 3, 1, 3, 1, 3);
        Samples.edit(x, 3, 1, "");
        counts("124", x, 3, 3, -1, 0, 2, 1, 4);
    }

    private static void itIsOfTheLastEdit() {
        EditedScanner x = Samples.singles();
        Samples.edit(x, 0, 0, "19");
        counts("19", x, 1, 2, 1, 1, 3, 1, 1);
        Samples.edit(x, 2, 0, "1111");
        counts("191111", x, 1, 6, 1, 1, 0, 0, 2);
        x.symbol(0);
        x.token(0, 0);
        x.tokenAt(0);
        x.arrow(0, 0, 0);
        x.kind(0, 0);
        counts("191111 and looks", x, 1, 6, 1, 1, 0, 0, 2);
    }

    private static void refusedEditsDoNotCount() {
        EditedScanner x = Samples.singles();
        Samples.edit(x, 0, 0, "123");
        x.edit(4, 0, 1L, 1);
        x.edit(0, 4, 1L, 1);
        x.edit(0, 0, 15L, 1);
        x.edit(0, 0, 1L, 17);
        counts("123 and refused ones", x, 3, 3, -1, 0, 6, 3, 1);
    }

    private static void anotherWhat() {
        EditedScanner x = Samples.singles();
        Samples.edit(x, 0, 0, "1293");
        int[] noWhat = {-1, -2, 7, 8, 100, Integer.MIN_VALUE, Integer.MAX_VALUE};
        for (int what : noWhat) {
            due.is("count(" + what + ")", x.count(what), -1);
        }
    }
}
