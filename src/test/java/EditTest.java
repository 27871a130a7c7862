/** Promise 4: edit. What it scans anew is in AnewTest. */
public final class EditTest {
    private static final Due due = new Due("EditTest");

    public static void main(String[] args) {
        theFirstSymbolIsHighest();
        bitsAboveAreNotSeen();
        wrongOnesAreRefused();
        noSymbolIsAboveNine();
        aRefusedOneChangesNothing();
        atMostFourHundred();
        everyLengthIsPutIn();
        theLeastAndTheGreatestLong();
        nIs0To16();
        asManyAsThereAreBehindThePlace();
        placesOfAnEmptyAndAFullText();
        whatIsTakenOutMakesRoom();
        itAnswersWhatIsRead();
        due.end();
    }

    private static void text(EditedScanner x, String want) {
        due.is("symbols " + Samples.symbols(x) + " are " + want,
            Samples.symbols(x).equals(want), true);
    }

    private static void theFirstSymbolIsHighest() {
        EditedScanner x = Samples.singles();
        x.edit(0, 0, 0x123L, 3);
        text(x, "123");
        x.edit(1, 0, 0x45L, 4);
        text(x, "1004523");
        EditedScanner y = new EditedScanner();
        y.edit(0, 0, 0x9876543210987654L, 16);
        text(y, "9876543210987654");
    }

    /** "of the lowest 4 * n": what lies above them is no symbol. */
    private static void bitsAboveAreNotSeen() {
        EditedScanner x = Samples.singles();
        due.is("edit of 1 below fs", x.edit(0, 0, 0xfffffffffffffff1L, 1), 2);
        text(x, "1");
        due.is("edit of nothing below fs", x.edit(1, 0, -1L, 0), 2);
        text(x, "1");
        due.is("edit of 15 below f", x.edit(1, 0, 0xf123456781234567L, 15), 32);
        text(x, "1123456781234567");
    }

    private static void wrongOnesAreRefused() {
        EditedScanner x = Samples.singles();
        Samples.edit(x, 0, 0, "1234");
        int[] noLength = {-1, -2, 17, 18, 400, Integer.MIN_VALUE, Integer.MAX_VALUE};
        for (int n : noLength) {
            due.is("n " + n, x.edit(0, 0, 0L, n), -1);
        }
        int[] noPlace = {-1, -2, 5, 6, 400, Integer.MIN_VALUE, Integer.MAX_VALUE};
        for (int place : noPlace) {
            due.is("place " + place, x.edit(place, 0, 0L, 1), -1);
            due.is("place " + place + " with out", x.edit(place, 1, 0L, 1), -1);
            due.is("place " + place + " with none", x.edit(place, 0, 0L, 0), -1);
            due.is("place " + place + " with less", x.edit(place, -place, 0L, 0), -1);
        }
        int[] noOut = {-1, -2, 3, 4, 5, Integer.MIN_VALUE, Integer.MAX_VALUE};
        for (int out : noOut) {
            due.is("out " + out, x.edit(2, out, 0L, 1), -1);
        }
        due.is("out and place wrap", x.edit(Integer.MAX_VALUE, Integer.MAX_VALUE, 0L, 0), -1);
        text(x, "1234");
    }

    /** "one of them above 9": each of them, with each that is above. */
    private static void noSymbolIsAboveNine() {
        for (int n = 1; n <= 16; n++) {
            EditedScanner x = Samples.singles();
            for (int i = 0; i < n; i++) {
                for (long nibble = 10; nibble < 16; nibble++) {
                    String name = nibble + " as symbol " + i + " from behind of " + n;
                    due.is(name, x.edit(0, 0, nibble << 4 * i, n), -1);
                }
            }
            due.is("count(1)", x.count(1), 0);
            due.is("nines", x.edit(0, 0, 0x9999999999999999L, n), 1);
        }
    }

    private static void aRefusedOneChangesNothing() {
        EditedScanner x = Samples.onesAndQuotes();
        Samples.edit(x, 0, 0, "11253");
        String before = Samples.found(x);
        x.edit(0, 1, 0x1a1L, 3);
        x.edit(0, 6, 0x11L, 2);
        x.edit(5, 1, 0x11L, 2);
        x.edit(-1, 1, 0x11L, 2);
        x.edit(0, 1, 0x11L, 17);
        text(x, "11253");
        due.found("refused edits", x, before);
        due.is("count(4)", x.count(4), 6);
        due.is("count(5)", x.count(5), 2);
        due.is("count(6)", x.count(6), 1);
        due.is("arrow", x.arrow(0, 0, 0), false);
    }

    private static void atMostFourHundred() {
        EditedScanner x = Samples.zeros();
        for (int i = 0; i < 24; i++) {
            x.edit(0, 0, 0L, 16);
        }
        due.is("edit to 399", x.edit(384, 0, 0L, 15), 400);
        due.is("edit to 401", x.edit(0, 0, 0L, 2), -1);
        due.is("edit to 400", x.edit(0, 0, 0L, 1), 401);
        due.is("edit to 401", x.edit(0, 0, 0L, 1), -1);
        due.is("edit to 401", x.edit(400, 0, 0L, 1), -1);
        due.is("edit to 401", x.edit(7, 15, 0L, 16), -1);
        due.is("edit at 400 of none", x.edit(400, 0, 0L, 0), 401);
        due.is("edit at 401 of none", x.edit(401, 0, 0L, 0), -1);
        due.is("edit of 16 for 16", x.edit(384, 16, 0L, 16), 401);
        due.is("edit of 400 out", x.edit(0, 400, 0L, 16), 17);
        due.is("count(1)", x.count(1), 16);
        due.is("count(6)", x.count(6), 29);
    }

    /** "n put in: four bits each in symbols, the first one highest of the lowest 4 * n" */
    private static void everyLengthIsPutIn() {
        String digits = "9182736450918273";
        for (int n = 0; n <= 16; n++) {
            EditedScanner x = new EditedScanner();
            String want = digits.substring(16 - n);
            due.is("edit of " + n, x.edit(0, 0, Samples.pack(digits), n), n == 0 ? 0 : 1);
            text(x, want);
            if (n > 0) {
                x.edit(n, 0, -16L, 1);
                text(x, want + "0");
            }
        }
    }

    /** The least long has an 8 as its first symbol, the greatest one fifteen that are none. */
    private static void theLeastAndTheGreatestLong() {
        EditedScanner x = new EditedScanner();
        due.is("the greatest, 16", x.edit(0, 0, Long.MAX_VALUE, 16), -1);
        due.is("the greatest, 15", x.edit(0, 0, Long.MAX_VALUE, 15), -1);
        due.is("the greatest, 1", x.edit(0, 0, Long.MAX_VALUE, 1), -1);
        due.is("the greatest, 0", x.edit(0, 0, Long.MAX_VALUE, 0), 0);
        due.is("-1, 16", x.edit(0, 0, -1L, 16), -1);
        due.is("-1, 1", x.edit(0, 0, -1L, 1), -1);
        due.is("-1, 0", x.edit(0, 0, -1L, 0), 0);
        text(x, "");
        due.is("the least, 16", x.edit(0, 0, Long.MIN_VALUE, 16), 1);
        text(x, "8000000000000000");
        due.is("the least, 15", x.edit(0, 16, Long.MIN_VALUE, 15), 1);
        text(x, "000000000000000");
        due.is("the least, 0", x.edit(0, 15, Long.MIN_VALUE, 0), 0);
        text(x, "");
        due.is("9s", x.edit(0, 0, 0x9999999999999999L, 16), 1);
        text(x, "9999999999999999");
        due.is("9s and an a", x.edit(0, 0, 0x999999999999999aL, 16), -1);
        due.is("an a and 9s", x.edit(0, 0, 0xa999999999999999L, 16), -1);
    }

    /** "refused, if n is not 0 .. 16" */
    private static void nIs0To16() {
        for (EditedScanner x : new EditedScanner[] {Samples.zeros(), Samples.fullOfZeros()}) {
            int size = x.count(1);
            for (int n : new int[] {Integer.MIN_VALUE, -16, -1, 17, 32, 64, Integer.MAX_VALUE}) {
                due.is("edit(0, 0, 0, " + n + ")", x.edit(0, 0, 0L, n), -1);
                due.is("edit(0, all, 0, " + n + ")", x.edit(0, size, 0L, n), -1);
            }
            due.is("edit(0, all, 0, 16)", x.edit(0, size, 0L, 16), 17);
            due.is("edit(0, 16, 0, 0)", x.edit(0, 16, 0L, 0), 0);
        }
    }

    /** "there are not as many to be taken out", at every place of a text. */
    private static void asManyAsThereAreBehindThePlace() {
        for (int place = 0; place <= 5; place++) {
            EditedScanner x = Samples.singles();
            Samples.edit(x, 0, 0, "12345");
            int left = 5 - place;
            due.is("one more than left at " + place, x.edit(place, left + 1, 0L, 0), -1);
            due.is("one less than none at " + place, x.edit(place, -1, 0L, 0), -1);
            due.is("far more at " + place, x.edit(place, Integer.MAX_VALUE, 0L, 0), -1);
            due.is("far less at " + place, x.edit(place, Integer.MIN_VALUE, 0L, 0), -1);
            due.is("wrapped round at " + place, x.edit(place, -place, 0L, 1), place > 0 ? -1 : 2);
            text(x, place > 0 ? "12345" : "012345");
        }
        for (int place = 0; place <= 5; place++) {
            EditedScanner x = Samples.singles();
            Samples.edit(x, 0, 0, "12345");
            due.is("all that are left", x.edit(place, 5 - place, 0L, 0) >= 0, true);
            text(x, "12345".substring(0, place));
        }
    }

    /** Behind the last symbol of a text none is to be taken out, and no place is behind its end. */
    private static void placesOfAnEmptyAndAFullText() {
        for (EditedScanner x : new EditedScanner[] {Samples.singles(), Samples.fullOfSingles()}) {
            int size = x.count(1);
            int[] wrong = {Integer.MIN_VALUE, -1, size + 1, Integer.MAX_VALUE};
            for (int place : wrong) {
                due.is("edit(" + place + ", 0, 0, 0)", x.edit(place, 0, 0L, 0), -1);
                due.is("edit(" + place + ", 1, 0, 1)", x.edit(place, 1, 0L, 1), -1);
                due.is("edit(" + place + ", -1, 0, 0)", x.edit(place, -1, 0L, 0), -1);
                due.is("edit(0, " + place + ", 0, 0)", x.edit(0, place, 0L, 0), -1);
            }
            due.is("edit(size, 1, 0, 0)", x.edit(size, 1, 0L, 0), -1);
            due.is("edit(size, 0, 0, 0)", x.edit(size, 0, 0L, 0), size == 0 ? 0 : 2);
            due.is("count(1)", x.count(1), size);
        }
    }

    /** "or the text would have more than 400": what is taken out makes room. */
    private static void whatIsTakenOutMakesRoom() {
        for (int out = 0; out <= 16; out++) {
            EditedScanner x = Samples.fullOfSingles();
            if (out < 16) {
                due.is(out + 1 + " for " + out, x.edit(7, out, 0L, out + 1), -1);
                due.is("16 for " + out, x.edit(7, out, 0L, 16), -1);
            }
            due.is(out + " for " + out, x.edit(7, out, 0L, out), out == 0 ? 2 : 2 * out + 2);
            due.is("count(1)", x.count(1), 400);
        }
    }

    /** "how many symbols (and ends) are read" */
    private static void itAnswersWhatIsRead() {
        EditedScanner x = Samples.onesAndQuotes();
        due.is("edit of 2111", Samples.edit(x, 0, 0, "2111"), 5 + 4);
        due.is("edit of 2 behind it", Samples.edit(x, 4, 0, "2"), 6);
        due.is("edit of 5 ahead of it", Samples.edit(x, 0, 0, "5"), 1);
        due.is("edit of 1 at its end", Samples.edit(x, 6, 0, "1"), 0);
    }
}
