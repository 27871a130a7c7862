import java.util.Random;

/** Edits by chance (of a fixed seed), compared with the plain model: promises 4 to 8 together. */
public final class RandomEditsTest {
    private static final int MOST_CALLS = 512;
    private static final Due due = new Due("RandomEditsTest");

    private final Random random;
    private final EditedScanner scanner = new EditedScanner();
    private final PlainModel model = new PlainModel();
    private final String run;
    private final int symbols;
    private int calls;

    private RandomEditsTest(int seed) {
        random = new Random(seed);
        run = "run " + seed + ", ";
        symbols = 1 + random.nextInt(4);
    }

    public static void main(String[] args) {
        for (int seed = 0; seed < 6000 && !due.hasWrong(); seed++) {
            RandomEditsTest test = new RandomEditsTest(seed);
            test.fillTable();
            test.editAndAsk(seed % 3 == 0 ? 400 : 5 + seed % 30, seed % 3 != 0);
        }
        due.end();
    }

    private void fillTable() {
        int states = 1 + random.nextInt(7);
        int arrows = 30 + random.nextInt(70);
        int kinds = 20 + random.nextInt(80);
        for (int state = 0; state < states; state++) {
            for (int symbol = 0; symbol < symbols; symbol++) {
                if (random.nextInt(100) < (state == 0 ? 95 : arrows)) {
                    setArrow(state, symbol, random.nextInt(states));
                }
            }
            if (random.nextInt(100) < kinds) {
                setKind(state, random.nextInt(100));
            }
        }
    }

    private void setArrow(int state, int symbol, int to) {
        calls++;
        due.is(run + "arrow", scanner.arrow(state, symbol, to), true);
        model.arrows[state][symbol] = to;
    }

    private void setKind(int state, int kind) {
        calls++;
        due.is(run + "kind", scanner.kind(state, kind), true);
        model.kinds[state] = kind;
    }

    private void editAndAsk(int longest, boolean askAll) {
        while (calls < MOST_CALLS) {
            int size = model.text.size();
            int place = random.nextInt(10) == 0 ? size : random.nextInt(size + 1);
            boolean shrink = size >= longest && random.nextInt(3) > 0;
            int most = shrink ? size - place : Math.min(size - place, 6);
            int out = random.nextInt(most + 1);
            int n = shrink ? random.nextInt(4) : random.nextInt(longest == 400 ? 17 : 5);
            edit(place, out, n);
            ask(askAll);
        }
    }

    private void edit(int place, int out, int n) {
        long packed = 0;
        for (int i = 0; i < n; i++) {
            boolean odd = random.nextInt(150) == 0;
            packed = packed << 4 | (odd ? random.nextInt(11) : random.nextInt(symbols));
        }
        String name = run + "edit(" + place + ", " + out + ", " + packed + ", " + n + ")";
        calls++;
        due.is(name, scanner.edit(place, out, packed, n), model.edit(place, out, packed, n));
    }

    private void ask(boolean all) {
        for (int what = 0; what < 7 && calls < MOST_CALLS; what++, calls++) {
            due.is(run + "count(" + what + ")", scanner.count(what), model.count(what));
        }
        int places = model.text.size() + 1;
        for (int i = 0; i < (all ? places : 5) && calls < MOST_CALLS - 3; i++, calls += 3) {
            int place = all ? i : random.nextInt(places);
            int what = random.nextInt(4);
            int token = all ? i : random.nextInt(model.tokens() + 1);
            due.is(run + "symbol", scanner.symbol(place), model.symbol(place));
            due.is(run + "tokenAt", scanner.tokenAt(place), model.tokenAt(place));
            due.is(run + "token", scanner.token(token, what), model.token(token, what));
        }
    }
}
