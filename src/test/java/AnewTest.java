/** The document's section "Terms", on edits: what is scanned anew, what is read, what stays. */
public final class AnewTest {
    private static final Due due = new Due("AnewTest");

    public static void main(String[] args) {
        aTokenThatLookedAtThePlaceIsScanned();
        aTokenThatLookedFarIsTheFirst();
        oldTokensStayBehindTheEdit();
        oldTokensStayJustBehindWhatIsPutIn();
        noneBeginsAmongWhatIsPutIn();
        oldBeginsAmongWhatIsTakenOutDoNotCount();
        theFirstOneIsOldAtOnce();
        theOldFailureStays();
        theOldFailureIsNotSeen();
        theOldEndEndsIt();
        behindAFailureNothingIsScanned();
        nothingOutAndNothingIn();
        theEmptyText();
        aFailureThatLookedAtThePlaceIsScanned();
        theEndIsAPlaceThatIsLookedAt();
        aFailureEndsIt();
        theEndEndsIt();
        whatIsReadTwiceCountsTwice();
        asManyAsCanBePutIn();
        aFullText();
        aFullTextWithAFailure();
        due.end();
    }

    private static void edit(EditedScanner x, int place, int out, String in, int read, int anew) {
        String name = "edit(" + place + ", " + out + ", " + in + ")";
        due.is(name, Samples.edit(x, place, out, in), read);
        due.is(name + " count(4)", x.count(4), read);
        due.is(name + " count(5)", x.count(5), anew);
    }

    private static void text(EditedScanner x, String want) {
        due.is("symbols " + Samples.symbols(x) + " are " + want,
            Samples.symbols(x).equals(want), true);
    }

    /** "The first one of them .. that looked at the place of the edit" */
    private static void aTokenThatLookedAtThePlaceIsScanned() {
        EditedScanner x = Samples.singles();
        edit(x, 0, 0, "1234", 8, 4);
        edit(x, 2, 1, "5", 4, 2);
        due.found("1254", x, "0+1:11/2 1+1:12/2 2+1:15/2 3+1:14/2");
        edit(x, 4, 0, "6", 4, 2);
        edit(x, 0, 1, "7", 2, 1);
    }

    /** "(in their order)": the first token looks at all 1s behind it, up to an end or a 2. */
    private static void aTokenThatLookedFarIsTheFirst() {
        EditedScanner x = Samples.onesAndQuotes();
        x.arrow(1, 1, -1);
        edit(x, 0, 0, "21111", 6 + 2 * 4, 5);
        edit(x, 5, 0, "3", 6 + 2 * 4 + 1, 5);
        due.found("211113", x, "0+1:3/6 1+1:7/2 2+1:7/2 3+1:7/2 4+1:7/2 5!/1");
        // From the first one on, and each of those ahead of the edit, but not the 1 behind it.
        edit(x, 3, 1, "1", 6 + 2 * 3, 4);
        due.found("211113", x, "0+1:3/6 1+1:7/2 2+1:7/2 3+1:7/2 4+1:7/2 5!/1");
        edit(x, 5, 1, "2", 7, 1);
        due.found("211112", x, "0+6:9/7");
    }

    /** "from there on the old ones stay, moved" */
    private static void oldTokensStayBehindTheEdit() {
        EditedScanner x = Samples.onesAndQuotes();
        edit(x, 0, 0, "2112211211", 5 + 5 + 3, 3);
        due.found("2112211211", x, "0+4:9/5 4+4:9/5 8+2:7/3");
        edit(x, 1, 0, "1", 6, 1);
        due.found("21112211211", x, "0+5:9/6 5+4:9/5 9+2:7/3");
        edit(x, 1, 2, "", 4, 1);
        due.found("212211211", x, "0+3:9/4 3+4:9/5 7+2:7/3");
        // The 2 that ended the first token is one of its own now; the one behind it is old.
        edit(x, 1, 1, "", 2 + 2, 2);
        due.found("22211211", x, "0+1:3/2 1+1:3/2 2+4:9/5 6+2:7/3");
    }

    /** "(or just behind the last of them)" */
    private static void oldTokensStayJustBehindWhatIsPutIn() {
        EditedScanner x = Samples.singles();
        edit(x, 0, 0, "1234", 8, 4);
        edit(x, 0, 0, "56", 4, 2);
        due.found("561234", x, "0+1:15/2 1+1:16/2 2+1:11/2 3+1:12/2 4+1:13/2 5+1:14/2");
        edit(x, 6, 0, "78", 6, 3);
        edit(x, 3, 3, "", 2, 1);
        due.found("56178", x, "0+1:15/2 1+1:16/2 2+1:11/2 3+1:17/2 4+1:18/2");
    }

    /** "behind all symbols that were put in": an old one begins there, but it is not old. */
    private static void noneBeginsAmongWhatIsPutIn() {
        EditedScanner x = Samples.singles();
        edit(x, 0, 0, "12345678", 16, 8);
        edit(x, 2, 0, "1234", 10, 5);
        edit(x, 2, 4, "5678", 10, 5);
        due.is("token(5, 2)", x.token(5, 2), 18);
        text(x, "125678345678");
    }

    /** "which is not ahead of the end of what was taken out" */
    private static void oldBeginsAmongWhatIsTakenOutDoNotCount() {
        EditedScanner x = Samples.singles();
        edit(x, 0, 0, "12345678", 16, 8);
        edit(x, 1, 5, "8", 4, 2);
        due.found("1878", x, "0+1:11/2 1+1:18/2 2+1:17/2 3+1:18/2");
        edit(x, 1, 2, "", 2, 1);
        due.found("18", x, "0+1:11/2 1+1:18/2");
    }

    /** "until one (the first one, too) would begin" */
    private static void theFirstOneIsOldAtOnce() {
        EditedScanner x = Samples.onesAndQuotes();
        edit(x, 0, 0, "1112112211", 4 + 5 + 4 + 3, 4);
        due.found("1112112211", x, "0+3:7/4 3+4:9/5 7+1:3/4 8+2:7/3");
        edit(x, 0, 3, "", 0, 0);
        due.found("2112211", x, "0+4:9/5 4+1:3/4 5+2:7/3");
        edit(x, 0, 0, "", 0, 0);
        edit(x, 0, 5, "", 0, 0);
        due.found("11", x, "0+2:7/3");
        // Where one was put in, the first one is not old, though it begins where it did.
        edit(x, 0, 0, "2", 4, 1);
        due.found("211", x, "0+1:3/4 1+2:7/3");
        edit(x, 0, 2, "", 2, 1);
        due.found("1", x, "0+1:7/2");
    }

    /** "is where an old token, the old failure, .. begins" */
    private static void theOldFailureStays() {
        EditedScanner x = Samples.onesAndQuotes();
        edit(x, 0, 0, "11225", 3 + 2 + 2 + 1, 3);
        due.found("11225", x, "0+2:7/3 2+1:3/2 3+1:3/2 4!/1");
        edit(x, 1, 0, "1", 4, 1);
        due.found("111225", x, "0+3:7/4 3+1:3/2 4+1:3/2 5!/1");
        edit(x, 0, 3, "", 0, 0);
        due.found("225", x, "0+1:3/2 1+1:3/2 2!/1");
        edit(x, 0, 2, "", 0, 0);
        due.found("5", x, "0!/1");
        edit(x, 0, 0, "1", 2, 1);
        due.found("15", x, "0+1:7/2 1!/1");
    }

    /** "Or until the end": past the old failure. */
    private static void theOldFailureIsNotSeen() {
        EditedScanner x = new EditedScanner();
        x.arrow(0, 1, 1);
        x.kind(1, 1);
        x.arrow(0, 3, 2);
        x.arrow(2, 5, 3);
        x.kind(3, 2);
        edit(x, 0, 0, "1511", 3, 1);
        due.found("1511", x, "0+1:1/2 1!/1");
        edit(x, 1, 0, "3", 2 + 3 + 2 + 2, 4);
        due.found("13511", x, "0+1:1/2 1+2:2/3 3+1:1/2 4+1:1/2");
        edit(x, 1, 1, "", 3, 1);
        due.found("1511", x, "0+1:1/2 1!/1");
    }

    /** "or the old end begins" */
    private static void theOldEndEndsIt() {
        EditedScanner x = Samples.onesAndQuotes();
        edit(x, 0, 0, "1122", 3 + 2 + 2, 3);
        edit(x, 3, 1, "", 2, 1);
        due.found("112", x, "0+2:7/3 2+1:3/2");
        edit(x, 0, 3, "", 0, 0);
        due.found("nothing", x, "");
        EditedScanner failed = Samples.singles();
        edit(failed, 0, 0, "1293", 5, 2);
        edit(failed, 0, 4, "", 0, 0);
        due.found("nothing", failed, "");
        due.is("count(2)", failed.count(2), -1);
    }

    /** "if there is none, .. otherwise nothing is scanned" */
    private static void behindAFailureNothingIsScanned() {
        EditedScanner x = Samples.singles();
        edit(x, 0, 0, "1293", 5, 2);
        edit(x, 3, 1, "12", 0, 0);
        text(x, "12912");
        edit(x, 5, 0, "3", 0, 0);
        edit(x, 3, 3, "", 0, 0);
        text(x, "129");
        due.found("129", x, "0+1:11/2 1+1:12/2 2!/1");
        due.is("count(6)", x.count(6), 4);
        edit(x, 2, 0, "", 2, 1);
        due.found("129", x, "0+1:11/2 1+1:12/2 2!/1");
    }

    /** An edit of nothing is an edit: those that looked at its place are scanned anew. */
    private static void nothingOutAndNothingIn() {
        EditedScanner x = Samples.onesAndQuotes();
        edit(x, 0, 0, "11211", 3 + 4 + 3, 3);
        edit(x, 0, 0, "", 0, 0);
        edit(x, 1, 0, "", 3, 1);
        edit(x, 2, 0, "", 3, 1);
        edit(x, 3, 0, "", 4, 1);
        edit(x, 5, 0, "", 4 + 3, 2);
        due.found("11211", x, "0+2:7/3 2+1:3/4 3+2:7/3");
        due.is("count(6)", x.count(6), 6);
    }

    /** "if there is none, and the text was empty, it is place 0" */
    private static void theEmptyText() {
        EditedScanner x = Samples.onesAndQuotes();
        edit(x, 0, 0, "", 0, 0);
        due.is("count(6)", x.count(6), 1);
        due.is("edit(1, 0, 0, 0)", x.edit(1, 0, 0L, 0), -1);
        due.is("edit(0, 1, 0, 0)", x.edit(0, 1, 0L, 0), -1);
        edit(x, 0, 0, "12", 4, 2);
        edit(x, 0, 2, "21", 4 + 1, 2);
        edit(x, 0, 2, "", 0, 0);
        edit(x, 0, 0, "3", 1, 0);
        due.found("3", x, "0!/1");
    }

    /** "that looked at the place of the edit, or at one behind it": the failure, too. */
    private static void aFailureThatLookedAtThePlaceIsScanned() {
        EditedScanner x = Samples.onesAndQuotes();
        x.arrow(0, 4, 5);
        x.arrow(5, 4, 5);
        edit(x, 0, 0, "14431", 2 + 3, 1);
        due.found("14431", x, "0+1:7/2 1!/3");
        // The failure, though it looked at the place, begins just behind the edit: it stays.
        edit(x, 1, 0, "", 2, 1);
        edit(x, 2, 0, "", 3, 0);
        edit(x, 3, 0, "", 3, 0);
        edit(x, 4, 0, "", 0, 0);
        edit(x, 3, 1, "3", 3, 0);
        edit(x, 4, 1, "4", 0, 0);
        edit(x, 5, 0, "4", 0, 0);
        due.found("144344", x, "0+1:7/2 1!/3");
        // Its place looked at moves with it, so that now the 3 at place 4 is the last one.
        edit(x, 0, 0, "1", 3, 1);
        edit(x, 5, 0, "", 0, 0);
        edit(x, 4, 0, "", 3, 0);
    }

    /** "(the end is the place behind its last one)" */
    private static void theEndIsAPlaceThatIsLookedAt() {
        EditedScanner x = Samples.singles();
        edit(x, 0, 0, "123", 6, 3);
        edit(x, 3, 0, "", 2, 1);
        edit(x, 3, 0, "4", 4, 2);
        EditedScanner y = Samples.onesAndQuotes();
        edit(y, 0, 0, "1211", 2 + 4 + 3, 3);
        edit(y, 4, 0, "", 4 + 3, 2);
        edit(y, 4, 0, "2", 5, 1);
        due.found("12112", y, "0+1:7/2 1+4:9/5");
    }

    /** "Or until .. a failure": old ones behind it do not stay. */
    private static void aFailureEndsIt() {
        EditedScanner x = Samples.singles();
        edit(x, 0, 0, "12345", 10, 5);
        edit(x, 2, 1, "9", 2 + 1, 1);
        due.found("12945", x, "0+1:11/2 1+1:12/2 2!/1");
        edit(x, 0, 0, "9", 1, 0);
        due.found("912945", x, "0!/1");
    }

    /** "Or until the end" */
    private static void theEndEndsIt() {
        EditedScanner x = Samples.onesAndQuotes();
        edit(x, 0, 0, "21121", 5 + 2, 2);
        due.found("21121", x, "0+4:9/5 4+1:7/2");
        edit(x, 3, 1, "", 5 + 4, 2);
        due.found("2111", x, "0+1:3/5 1+3:7/4");
        edit(x, 2, 2, "", 3 + 2, 2);
        due.found("21", x, "0+1:3/3 1+1:7/2");
    }

    /** "The edit READS what is looked at .., each time that it is (the end counts, too)" */
    private static void whatIsReadTwiceCountsTwice() {
        EditedScanner x = Samples.onesAndQuotes();
        x.arrow(1, 1, -1);
        edit(x, 0, 0, "2111", 5 + 2 + 2 + 2, 4);
        EditedScanner y = Samples.zeros();
        edit(y, 0, 0, "0", 2, 1);
        edit(y, 0, 1, "1", 1, 0);
        edit(y, 0, 1, "", 0, 0);
    }

    private static void asManyAsCanBePutIn() {
        EditedScanner x = Samples.singles();
        edit(x, 0, 0, "12", 4, 2);
        edit(x, 1, 0, "1234567812345678", 2 + 16 * 2, 17);
        due.is("token(17, 2)", x.token(17, 2), 12);
        edit(x, 1, 16, "8765432187654321", 2 + 16 * 2, 17);
        due.is("token(17, 0)", x.token(17, 0), 17);
        edit(x, 1, 16, "", 2, 1);
        due.found("12", x, "0+1:11/2 1+1:12/2");
    }

    private static void aFullText() {
        EditedScanner x = Samples.fullOfSingles();
        edit(x, 400, 0, "", 2, 1);
        edit(x, 399, 1, "5", 4, 2);
        edit(x, 0, 1, "3", 2, 1);
        edit(x, 1, 1, "3", 4, 2);
        due.is("token(399, 2)", x.token(399, 2), 15);
        edit(x, 0, 16, "", 0, 0);
        due.is("token(383, 0)", x.token(383, 0), 383);
        edit(x, 0, 0, "8888888888888888", 32, 16);
        due.is("token(399, 0)", x.token(399, 0), 399);
        due.is("token(399, 2)", x.token(399, 2), 15);
        edit(x, 1, 398, "", 2, 1);
        due.found("8 and 5", x, "0+1:18/2 1+1:15/2");
        EditedScanner y = Samples.fullOfSingles();
        edit(y, 0, 400, "", 0, 0);
        due.found("nothing", y, "");
        EditedScanner z = Samples.fullOfZeros();
        edit(z, 400, 0, "", 401, 1);
        edit(z, 399, 1, "1", 401 - 1 + 1, 1);
        due.found("399 0 and 1", z, "0+399:5/400 399!/1");
    }

    private static void aFullTextWithAFailure() {
        EditedScanner x = Samples.fullWithFailure();
        edit(x, 400, 0, "", 0, 0);
        edit(x, 399, 0, "", 2, 1);
        edit(x, 0, 1, "", 0, 0);
        due.is("count(2)", x.count(2), 398);
        edit(x, 0, 0, "4", 2, 1);
        due.is("count(2)", x.count(2), 399);
        edit(x, 399, 1, "4", 2 + 2, 2);
        due.is("count(2)", x.count(2), -1);
        due.is("count(0)", x.count(0), 400);
    }
}
