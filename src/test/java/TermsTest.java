/** The document's section "Terms": the table, the text, and how a token is scanned. */
public final class TermsTest {
    private static final Due due = new Due("TermsTest");
    private static final int LEAST = Integer.MIN_VALUE;
    private static final int GREATEST = Integer.MAX_VALUE;

    public static void main(String[] args) {
        statesAre0To19();
        theFirstAndTheLastStateAreUsed();
        symbolsAre0To9();
        kindsAre0To99();
        aTextHasAtMost400();
        placesBeginAt0();
        theOneThatLeadsNowhereIsLookedAt();
        theEndIsLookedAtAsIfItWereOneMore();
        nothingBehindTheOneThatLeadsNowhereIsLookedAt();
        aTokenHasAtLeastOneSymbol();
        theLongestRowIsTheToken();
        theLongestRowMayEndFarAhead();
        theKindIsThatOfItsLastState();
        withoutAKindScanningFails();
        anEmptyTextHasNoTokenAndNoFailure();
        aScanGoesUpToTheEnd();
        behindAFailureNothingIsScanned();
        theLastCallsAnswerToo();
        due.end();
    }

    /** "There are STATES 0 .. 19" */
    private static void statesAre0To19() {
        EditedScanner x = new EditedScanner();
        for (int wrong : new int[] {LEAST, -1, 20, GREATEST}) {
            due.is("arrow(" + wrong + ", 0, 0)", x.arrow(wrong, 0, 0), false);
            due.is("kind(" + wrong + ", 0)", x.kind(wrong, 0), false);
        }
        for (int wrong : new int[] {LEAST, -2, 20, GREATEST}) {
            due.is("arrow(0, 0, " + wrong + ")", x.arrow(0, 0, wrong), false);
        }
        for (int state = 0; state < 20; state++) {
            due.is("arrow(" + state + ", 0, 0)", x.arrow(state, 0, 0), true);
            due.is("arrow(0, 0, " + state + ")", x.arrow(0, 0, state), true);
            due.is("kind(" + state + ", 0)", x.kind(state, 0), true);
        }
    }

    private static void theFirstAndTheLastStateAreUsed() {
        EditedScanner x = new EditedScanner();
        x.arrow(0, 0, 19);
        x.arrow(19, 9, 0);
        x.kind(0, 1);
        x.kind(19, 2);
        Samples.edit(x, 0, 0, "09090");
        due.found("09090", x, "0+5:2/6");
        Samples.edit(x, 4, 1, "");
        due.found("0909", x, "0+4:1/5");
    }

    /** "SYMBOLS 0 .. 9" */
    private static void symbolsAre0To9() {
        EditedScanner x = new EditedScanner();
        for (int wrong : new int[] {LEAST, -1, 10, 11, 15, 16, GREATEST}) {
            due.is("arrow(0, " + wrong + ", 0)", x.arrow(0, wrong, 0), false);
        }
        for (int symbol = 0; symbol < 10; symbol++) {
            due.is("arrow(0, " + symbol + ", 0)", x.arrow(0, symbol, 0), true);
        }
        for (int symbol = 0; symbol < 10; symbol++) {
            due.is("edit of " + symbol, x.edit(symbol, 0, symbol, 1), symbol + 2);
            due.is("symbol(" + symbol + ")", x.symbol(symbol), symbol);
        }
        for (int wrong = 10; wrong < 16; wrong++) {
            due.is("edit of " + wrong, x.edit(0, 0, wrong, 1), -1);
        }
    }

    /** "a KIND 0 .. 99" */
    private static void kindsAre0To99() {
        EditedScanner x = new EditedScanner();
        for (int wrong : new int[] {LEAST, -2, 100, 101, GREATEST}) {
            due.is("kind(0, " + wrong + ")", x.kind(0, wrong), false);
        }
        for (int kind = 0; kind < 100; kind++) {
            due.is("kind(0, " + kind + ")", x.kind(0, kind), true);
        }
        for (int kind : new int[] {0, 99}) {
            EditedScanner y = Samples.zeros();
            y.kind(0, kind);
            Samples.edit(y, 0, 0, "0");
            due.is("token(0, 2)", y.token(0, 2), kind);
        }
    }

    /** "A TEXT is a row of symbols, at most 400" */
    private static void aTextHasAtMost400() {
        for (int n = 1; n <= 16; n++) {
            EditedScanner x = Samples.singles();
            Samples.fill(x, 401 - n);
            due.is(n + " more than " + (401 - n), x.edit(0, 0, 0L, n), -1);
            due.is(n + " more, one less", x.edit(0, 1, 0L, n) > 0, true);
            due.is("count(1)", x.count(1), 400);
            due.is(n + " more than 400", x.edit(400, 0, 0L, n), -1);
            due.is(n + " for " + (n - 1), x.edit(0, n - 1, 0L, n), -1);
            due.is(n + " for " + n, x.edit(0, n, 0L, n) > 0, true);
            due.is("count(1)", x.count(1), 400);
        }
    }

    /** "places 0, 1, .." */
    private static void placesBeginAt0() {
        EditedScanner x = Samples.singles();
        due.is("edit(1, 0, 5, 1)", x.edit(1, 0, 5L, 1), -1);
        due.is("edit(0, 0, 5, 1)", x.edit(0, 0, 5L, 1), 2);
        due.is("symbol(0)", x.symbol(0), 5);
        due.is("symbol(1)", x.symbol(1), -1);
        due.is("token(0, 0)", x.token(0, 0), 0);
        EditedScanner full = Samples.fullOfSingles();
        due.is("symbol(0)", full.symbol(0), 0);
        due.is("symbol(399)", full.symbol(399), 399 % 9);
        due.is("symbol(400)", full.symbol(400), -1);
    }

    /** "it LOOKS AT each of these symbols, and at the one that leads nowhere" */
    private static void theOneThatLeadsNowhereIsLookedAt() {
        EditedScanner x = Samples.onesAndQuotes();
        Samples.edit(x, 0, 0, "1121113");
        due.found("1121113", x, "0+2:7/3 2+1:3/5 3+3:7/4 6!/1");
        EditedScanner y = new EditedScanner();
        Samples.edit(y, 0, 0, "00");
        due.found("00", y, "0!/1");
    }

    /** "or the text's END (as if it were one more)" */
    private static void theEndIsLookedAtAsIfItWereOneMore() {
        EditedScanner x = Samples.onesAndQuotes();
        Samples.edit(x, 0, 0, "1");
        due.found("1", x, "0+1:7/2");
        Samples.edit(x, 0, 1, "2111");
        due.found("2111", x, "0+1:3/5 1+3:7/4");
        EditedScanner failing = Samples.onesAndQuotes();
        failing.kind(1, -1);
        Samples.edit(failing, 0, 0, "11");
        due.found("11", failing, "0!/3");
        due.found("400 0", Samples.fullOfZeros(), "0+400:5/401");
        EditedScanner full = Samples.fullOfSingles();
        due.is("token(399, 3)", full.token(399, 3), 2);
    }

    private static void nothingBehindTheOneThatLeadsNowhereIsLookedAt() {
        EditedScanner x = Samples.onesAndQuotes();
        Samples.edit(x, 0, 0, "2131");
        due.is("token(0, 3)", x.token(0, 3), 3);
        Samples.edit(x, 3, 1, "2");
        due.is("count(4)", x.count(4), 0);
    }

    /** "The longest row of at least one symbol": state 0, behind none, has a kind here. */
    private static void aTokenHasAtLeastOneSymbol() {
        EditedScanner x = Samples.zeros();
        Samples.edit(x, 0, 0, "1");
        due.found("1", x, "0!/1");
        Samples.edit(x, 0, 0, "0");
        due.found("01", x, "0+1:5/2 1!/1");
        EditedScanner y = Samples.zeros();
        y.arrow(0, 1, 1);
        Samples.edit(y, 0, 0, "1");
        due.found("1", y, "0!/2");
    }

    /** "The longest row .. whose state has a kind is the TOKEN" */
    private static void theLongestRowIsTheToken() {
        EditedScanner x = Samples.onesAndQuotes();
        Samples.edit(x, 0, 0, "2112");
        due.found("2112", x, "0+4:9/5");
        Samples.edit(x, 3, 1, "");
        due.found("211", x, "0+1:3/4 1+2:7/3");
    }

    /** A circle of twenty states, of which state 0 alone has a kind. */
    private static void theLongestRowMayEndFarAhead() {
        EditedScanner x = new EditedScanner();
        for (int state = 0; state < 20; state++) {
            x.arrow(state, 0, (state + 1) % 20);
        }
        x.kind(0, 5);
        for (int i = 0; i < 25; i++) {
            x.edit(0, 0, 0L, 16);
        }
        due.found("400 0", x, "0+400:5/401");
        x.edit(0, 1, 0L, 0);
        due.found("399 0", x, "0+380:5/400 380!/20");
        x.edit(0, 380, 0L, 0);
        due.found("19 0", x, "0!/20");
        x.edit(0, 0, 0L, 1);
        due.found("20 0", x, "0+20:5/21");
    }

    /** "of that kind" */
    private static void theKindIsThatOfItsLastState() {
        EditedScanner x = new EditedScanner();
        for (int state = 0; state < 5; state++) {
            x.arrow(state, 0, state + 1);
            x.kind(state, 10 * state);
        }
        Samples.edit(x, 0, 0, "00");
        due.found("00", x, "0+2:20/3");
        Samples.edit(x, 0, 0, "000");
        due.found("00000", x, "0+4:40/6 4+1:10/2");
    }

    /** "If there is none, scanning FAILS at that place." */
    private static void withoutAKindScanningFails() {
        EditedScanner x = Samples.onesAndQuotes();
        x.arrow(0, 4, 5);
        x.arrow(5, 4, 5);
        Samples.edit(x, 0, 0, "1444");
        due.found("1444", x, "0+1:7/2 1!/4");
        due.is("count(2)", x.count(2), 1);
        Samples.edit(x, 0, 1, "");
        due.is("count(2)", x.count(2), 0);
        EditedScanner full = Samples.fullWithFailure();
        due.is("count(2)", full.count(2), 399);
    }

    private static void anEmptyTextHasNoTokenAndNoFailure() {
        EditedScanner x = Samples.zeros();
        due.found("nothing", x, "");
        Samples.edit(x, 0, 0, "001");
        Samples.edit(x, 0, 3, "");
        due.found("nothing again", x, "");
        due.is("count(2)", x.count(2), -1);
        due.is("count(3)", x.count(3), 0);
    }

    /** "a token at 0, the next one where that ends, and so on, up to the text's end" */
    private static void aScanGoesUpToTheEnd() {
        EditedScanner x = Samples.fullOfSingles();
        due.is("count(0)", x.count(0), 400);
        for (int i = 0; i < 400; i++) {
            due.is("token(" + i + ", 0)", x.token(i, 0), i);
        }
        due.is("token(400, 0)", x.token(400, 0), -1);
        due.is("count(2)", x.count(2), -1);
    }

    /** "or a FAILURE, behind which nothing is scanned" */
    private static void behindAFailureNothingIsScanned() {
        EditedScanner x = Samples.singles();
        Samples.edit(x, 0, 0, "1912");
        due.found("1912", x, "0+1:11/2 1!/1");
        Samples.edit(x, 0, 1, "9");
        due.found("9912", x, "0!/1");
        EditedScanner full = Samples.fullOfSingles();
        full.edit(0, 1, 9L, 1);
        due.found("a 9 and 399 more", full, "0!/1");
        due.is("count(0)", full.count(0), 0);
        due.is("tokenAt(399)", full.tokenAt(399), -1);
    }

    /** "An object is used for at most 512 calls": the last of them, too. */
    private static void theLastCallsAnswerToo() {
        EditedScanner x = new EditedScanner();
        x.arrow(0, 0, 0);
        x.kind(0, 5);
        for (int i = 0; i < 509; i++) {
            int read = i < 25 ? 16 * i + 17 : 401;
            int size = Math.min(16 * i, 384);
            due.is("edit " + i, x.edit(size, i < 25 ? 0 : 16, 0L, 16), read);
        }
        due.is("count(6), the 512th call", x.count(6), 509);
    }
}
