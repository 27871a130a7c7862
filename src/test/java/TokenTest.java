/** Promise 5: token, and with it how a token is scanned. */
public final class TokenTest {
    private static final Due due = new Due("TokenTest");

    public static void main(String[] args) {
        eachWhat();
        wrongOnesHaveNone();
        aFailureIsNoToken();
        theLongestOneIsTaken();
        aStateWithoutKindAtTheEndGoesBack();
        theLastKindCounts();
        noTokenIsWithoutSymbols();
        aTokenAsLongAsTheText();
        asManyTokensAsSymbols();
        boundsOfTokens();
        boundsOfWhat();
        whatItLookedAtStaysWithIt();
        due.end();
    }

    private static void eachWhat() {
        EditedScanner x = Samples.onesAndQuotes();
        Samples.edit(x, 0, 0, "11212");
        due.is("token(0, 0)", x.token(0, 0), 0);
        due.is("token(0, 1)", x.token(0, 1), 2);
        due.is("token(0, 2)", x.token(0, 2), 7);
        due.is("token(0, 3)", x.token(0, 3), 3);
        due.is("token(1, 0)", x.token(1, 0), 2);
        due.is("token(1, 1)", x.token(1, 1), 3);
        due.is("token(1, 2)", x.token(1, 2), 9);
        due.is("token(1, 3)", x.token(1, 3), 4);
    }

    private static void wrongOnesHaveNone() {
        EditedScanner x = Samples.onesAndQuotes();
        Samples.edit(x, 0, 0, "1122");
        int[] noToken = {-1, -2, 3, 4, 400, Integer.MIN_VALUE, Integer.MAX_VALUE};
        int[] noWhat = {-1, -2, 4, 5, Integer.MIN_VALUE, Integer.MAX_VALUE};
        for (int i : noToken) {
            for (int what = -1; what < 5; what++) {
                due.is("token(" + i + ", " + what + ")", x.token(i, what), -1);
            }
        }
        for (int what : noWhat) {
            due.is("token(1, " + what + ")", x.token(1, what), -1);
        }
        due.is("token(2, 0)", x.token(2, 0), 3);
    }

    private static void aFailureIsNoToken() {
        EditedScanner x = Samples.singles();
        Samples.edit(x, 0, 0, "1292");
        due.found("1292", x, "0+1:11/2 1+1:12/2 2!/1");
        for (int what = 0; what < 4; what++) {
            due.is("token(2, " + what + ")", x.token(2, what), -1);
        }
    }

    private static void theLongestOneIsTaken() {
        EditedScanner x = Samples.onesAndQuotes();
        Samples.edit(x, 0, 0, "2111121");
        due.found("2111121", x, "0+6:9/7 6+1:7/2");
    }

    private static void aStateWithoutKindAtTheEndGoesBack() {
        EditedScanner x = Samples.onesAndQuotes();
        Samples.edit(x, 0, 0, "2111");
        due.found("2111", x, "0+1:3/5 1+3:7/4");
        EditedScanner y = Samples.onesAndQuotes();
        Samples.edit(y, 0, 0, "2113");
        due.found("2113", y, "0+1:3/4 1+2:7/3 3!/1");
    }

    private static void theLastKindCounts() {
        EditedScanner x = new EditedScanner();
        for (int state = 0; state < 5; state++) {
            x.arrow(state, 0, state + 1);
            x.kind(state + 1, 90 + state);
        }
        Samples.edit(x, 0, 0, "0000000");
        due.found("seven 0", x, "0+5:94/6 5+2:91/3");
    }

    /** State 0 has a kind, but a row of no symbols is no token. */
    private static void noTokenIsWithoutSymbols() {
        EditedScanner x = Samples.zeros();
        Samples.edit(x, 0, 0, "001");
        due.found("001", x, "0+2:5/3 2!/1");
        EditedScanner y = new EditedScanner();
        y.kind(0, 5);
        y.arrow(0, 1, 1);
        y.arrow(1, 1, 0);
        Samples.edit(y, 0, 0, "111");
        due.found("111", y, "0+2:5/4 2!/2");
    }

    private static void aTokenAsLongAsTheText() {
        EditedScanner x = Samples.zeros();
        for (int i = 0; i < 25; i++) {
            x.edit(16 * i, 0, 0L, 16);
        }
        due.found("400 0", x, "0+400:5/401");
        due.is("count(4)", x.count(4), 401);
    }

    private static void asManyTokensAsSymbols() {
        EditedScanner x = Samples.singles();
        for (int i = 0; i < 25; i++) {
            Samples.edit(x, 0, 0, "0123456780123456");
        }
        due.is("count(0)", x.count(0), 400);
        due.is("token(399, 0)", x.token(399, 0), 399);
        due.is("token(399, 1)", x.token(399, 1), 1);
        due.is("token(399, 2)", x.token(399, 2), 16);
        due.is("token(399, 3)", x.token(399, 3), 2);
        due.is("token(400, 0)", x.token(400, 0), -1);
        Samples.edit(x, 399, 1, "9");
        due.is("count(0)", x.count(0), 399);
        due.is("count(2)", x.count(2), 399);
        due.is("token(399, 0)", x.token(399, 0), -1);
    }

    /** "-1 if there is none": in an empty, a full, a failed text. */
    private static void boundsOfTokens() {
        tokensAre("a new object", new EditedScanner(), 0);
        tokensAre("an empty text", Samples.singles(), 0);
        tokensAre("400 tokens", Samples.fullOfSingles(), 400);
        tokensAre("one token of 400", Samples.fullOfZeros(), 1);
        tokensAre("399 tokens and a failure", Samples.fullWithFailure(), 399);
        EditedScanner failed = Samples.singles();
        Samples.edit(failed, 0, 0, "91");
        tokensAre("a failure alone", failed, 0);
        EditedScanner emptied = Samples.fullOfSingles();
        emptied.edit(0, 400, 0L, 0);
        tokensAre("an emptied text", emptied, 0);
        EditedScanner cleared = Samples.fullOfSingles();
        cleared.clear();
        tokensAre("a cleared text", cleared, 0);
    }

    private static void tokensAre(String text, EditedScanner x, int tokens) {
        int[] none = {Integer.MIN_VALUE, -1, tokens, tokens + 1, 401, Integer.MAX_VALUE};
        for (int what = 0; what < 4; what++) {
            for (int i : none) {
                due.is(text + " token(" + i + ", " + what + ")", x.token(i, what), -1);
            }
            if (tokens > 0) {
                due.is(text + " first", x.token(0, what) >= 0, true);
                due.is(text + " last", x.token(tokens - 1, what) >= 0, true);
            }
        }
    }

    /** "or for another what": of tokens that there are, and of some that there are not. */
    private static void boundsOfWhat() {
        EditedScanner x = Samples.fullOfSingles();
        for (int what : new int[] {Integer.MIN_VALUE, -2, -1, 4, 5, 6, Integer.MAX_VALUE}) {
            for (int i : new int[] {Integer.MIN_VALUE, -1, 0, 399, 400, Integer.MAX_VALUE}) {
                due.is("token(" + i + ", " + what + ")", x.token(i, what), -1);
            }
        }
    }

    /** "3 how many it looked at (the end, too)", whether scanned anew or moved. */
    private static void whatItLookedAtStaysWithIt() {
        EditedScanner x = Samples.onesAndQuotes();
        Samples.edit(x, 0, 0, "1211");
        due.found("1211", x, "0+1:7/2 1+1:3/4 2+2:7/3");
        Samples.edit(x, 0, 1, "");
        due.found("211", x, "0+1:3/4 1+2:7/3");
        Samples.edit(x, 0, 0, "11111111");
        due.found("11111111211", x, "0+8:7/9 8+1:3/4 9+2:7/3");
    }
}
