/** Scanners that several tests begin with, and ways to fill and to show them. */
final class Samples {
    private Samples() {
    }

    /** 1s are kind 7; a 2 is kind 3; a 2, 1s and a 2 are kind 9. */
    static EditedScanner onesAndQuotes() {
        EditedScanner x = new EditedScanner();
        x.arrow(0, 1, 1);
        x.arrow(1, 1, 1);
        x.kind(1, 7);
        x.arrow(0, 2, 2);
        x.kind(2, 3);
        x.arrow(2, 1, 3);
        x.arrow(3, 1, 3);
        x.arrow(3, 2, 4);
        x.kind(4, 9);
        return x;
    }

    /** Each symbol 0 .. 8 is a token of its own, of kind 10 + symbol; 9 leads nowhere. */
    static EditedScanner singles() {
        EditedScanner x = new EditedScanner();
        for (int symbol = 0; symbol < 9; symbol++) {
            x.arrow(0, symbol, symbol + 1);
            x.kind(symbol + 1, 10 + symbol);
        }
        return x;
    }

    /** Rows of 0, as long as they can be, are of kind 5. */
    static EditedScanner zeros() {
        EditedScanner x = new EditedScanner();
        x.arrow(0, 0, 0);
        x.kind(0, 5);
        return x;
    }

    /** A text of 400 symbols, each of them a token. */
    static EditedScanner fullOfSingles() {
        EditedScanner x = singles();
        fill(x, 400);
        return x;
    }

    /** A text of 400 symbols, which is one token. */
    static EditedScanner fullOfZeros() {
        EditedScanner x = zeros();
        for (int i = 0; i < 25; i++) {
            x.edit(0, 0, 0L, 16);
        }
        return x;
    }

    /** A text of 400 symbols: 399 tokens, and a failure at the last place. */
    static EditedScanner fullWithFailure() {
        EditedScanner x = singles();
        fill(x, 399);
        x.edit(399, 0, 9L, 1);
        return x;
    }

    /** Puts symbols in behind the last one, at place p the symbol p % 9, up to so many. */
    static void fill(EditedScanner x, int size) {
        int place = x.count(1);
        while (place < size) {
            StringBuilder digits = new StringBuilder();
            for (int i = 0; i < 16 && place + i < size; i++) {
                digits.append((place + i) % 9);
            }
            edit(x, place, 0, digits.toString());
            place += digits.length();
        }
    }

    static long pack(String digits) {
        long packed = 0;
        for (int i = 0; i < digits.length(); i++) {
            packed = packed << 4 | digits.charAt(i) - '0';
        }
        return packed;
    }

    static int edit(EditedScanner x, int place, int out, String digits) {
        return x.edit(place, out, pack(digits), digits.length());
    }

    static String symbols(EditedScanner x) {
        StringBuilder row = new StringBuilder();
        for (int place = 0; place < x.count(1); place++) {
            row.append(x.symbol(place));
        }
        return row.toString();
    }

    static String found(EditedScanner x) {
        StringBuilder row = new StringBuilder();
        for (int i = 0; i < x.count(0); i++) {
            row.append(x.token(i, 0)).append('+').append(x.token(i, 1));
            row.append(':').append(x.token(i, 2)).append('/').append(x.token(i, 3)).append(' ');
        }
        if (x.count(2) != -1) {
            row.append(x.count(2)).append("!/").append(x.count(3));
        }
        return row.toString().trim();
    }
}
