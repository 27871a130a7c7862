import java.util.Arrays;

/**
 * A scanner of texts that are edited: tokens as long as they can be, by a table of states; after
 * an edit only what may have changed is scanned anew.
 */
public final class EditedScanner {
    private static final int NONE = -1;
    private static final int STATES = 20;
    private static final int SYMBOLS = 10;
    private static final int KINDS = 100;
    private static final int MOST_SYMBOLS = 400;
    private static final int MOST_PUT_IN = 16;

    private final Table table;
    private final Text text;
    // Two rows that change places at each edit, so that no edit makes an object.
    private Findings found;
    private Findings spare;
    private int readByLast;
    private int scannedByLast;
    private int edits;

    public EditedScanner() {
        table = new Table();
        text = new Text();
        found = new Findings();
        spare = new Findings();
    }

    public boolean arrow(int state, int symbol, int to) {
        return text.isEmpty() && table.setArrow(state, symbol, to);
    }

    public boolean kind(int state, int kind) {
        return text.isEmpty() && table.setKind(state, kind);
    }

    public int edit(int place, int out, long symbols, int n) {
        if (!text.canReplace(place, out, n) || !areSymbols(symbols, n)) {
            return NONE;
        }
        int first = found.firstThatLookedAt(place);
        boolean mayHaveChanged = text.isEmpty() || first < found.size();
        text.replace(place, out, symbols, n);
        readByLast = 0;
        scannedByLast = 0;
        edits++;
        if (mayHaveChanged) {
            scanAnew(first, place + n, n - out);
        }
        return readByLast;
    }

    public int token(int i, int what) {
        if (i < 0 || i >= found.tokens()) {
            return NONE;
        }
        switch (what) {
            case 0:
                return found.begin(i);
            case 1:
                return found.length(i);
            case 2:
                return found.kindFound(i);
            case 3:
                return found.looked(i);
            default:
                return NONE;
        }
    }

    public int tokenAt(int place) {
        return found.tokenAround(place);
    }

    public int symbol(int place) {
        return text.at(place);
    }

    public int count(int what) {
        switch (what) {
            case 0:
                return found.tokens();
            case 1:
                return text.size();
            case 2:
                return found.failed() ? found.begin(found.tokens()) : NONE;
            case 3:
                return found.failed() ? found.looked(found.tokens()) : 0;
            case 4:
                return readByLast;
            case 5:
                return scannedByLast;
            case 6:
                return edits;
            default:
                return NONE;
        }
    }

    public int clear() {
        int tokens = found.tokens();
        table.forget();
        text.forget();
        found.forget();
        readByLast = 0;
        scannedByLast = 0;
        edits = 0;
        return tokens;
    }

    private static boolean areSymbols(long packed, int n) {
        for (int i = 0; i < n; i++) {
            if (unpack(packed, n, i) >= SYMBOLS) {
                return false;
            }
        }
        return true;
    }

    private static int unpack(long packed, int n, int i) {
        return (int) (packed >>> (4 * (n - 1 - i))) & 15;
    }

    /**
     * Scans from the old finding first on, in the text as it is now, up to the first old finding
     * behind the edit that begins where the next one would: it looked at nothing that changed.
     */
    private void scanAnew(int first, int behindPutIn, int moved) {
        spare.takeUpTo(found, first);
        int old = first;
        int begin = spare.nextBegin();
        for (int step = 0; step < MOST_SYMBOLS && begin < text.size(); step++) {
            if (begin >= behindPutIn) {
                old = found.firstFrom(old, begin - moved);
                if (found.begin(old) == begin - moved) {
                    spare.takeMoved(found, old, moved);
                    break;
                }
            }
            scanOne(begin);
            if (spare.failed()) {
                break;
            }
            begin = spare.nextBegin();
        }
        Findings before = found;
        found = spare;
        spare = before;
    }

    private void scanOne(int begin) {
        int state = 0;
        int looked = 0;
        int length = 0;
        int kind = NONE;
        // One step more than symbols: the end is looked at, too.
        while (state != NONE && looked <= MOST_SYMBOLS) {
            state = table.next(state, text.at(begin + looked));
            looked++;
            if (table.kindOf(state) != NONE) {
                length = looked;
                kind = table.kindOf(state);
            }
        }
        spare.add(begin, length, kind, looked);
        readByLast += looked;
        if (length > 0) {
            scannedByLast++;
        }
    }

    /** Where symbols lead, and the kinds of states. */
    private static final class Table {
        private final int[] arrows = new int[STATES * SYMBOLS];
        private final int[] kinds = new int[STATES];

        Table() {
            forget();
        }

        void forget() {
            Arrays.fill(arrows, NONE);
            Arrays.fill(kinds, NONE);
        }

        boolean setArrow(int state, int symbol, int to) {
            if (!isState(state) || !isSymbol(symbol) || (to != NONE && !isState(to))) {
                return false;
            }
            arrows[state * SYMBOLS + symbol] = to;
            return true;
        }

        boolean setKind(int state, int kind) {
            if (!isState(state) || kind < NONE || kind >= KINDS) {
                return false;
            }
            kinds[state] = kind;
            return true;
        }

        /** The end of a text is no symbol, so that it leads nowhere. */
        int next(int state, int symbol) {
            return isState(state) && isSymbol(symbol) ? arrows[state * SYMBOLS + symbol] : NONE;
        }

        int kindOf(int state) {
            return isState(state) ? kinds[state] : NONE;
        }

        private static boolean isState(int state) {
            return state >= 0 && state < STATES;
        }

        private static boolean isSymbol(int symbol) {
            return symbol >= 0 && symbol < SYMBOLS;
        }
    }

    /** The row of symbols. */
    private static final class Text {
        private final int[] row = new int[MOST_SYMBOLS];
        private int size;

        void forget() {
            size = 0;
        }

        int size() {
            return size;
        }

        boolean isEmpty() {
            return size == 0;
        }

        int at(int place) {
            return place >= 0 && place < size ? row[place] : NONE;
        }

        /** Compares with what is left, as sums of any two arguments could wrap around. */
        boolean canReplace(int place, int out, int n) {
            return n >= 0 && n <= MOST_PUT_IN
                && place >= 0 && place <= size
                && out >= 0 && out <= size - place
                && size - out + n <= MOST_SYMBOLS;
        }

        void replace(int place, int out, long packed, int n) {
            if (!canReplace(place, out, n)) {
                return;
            }
            System.arraycopy(row, place + out, row, place + n, size - place - out);
            for (int i = 0; i < n; i++) {
                row[place + i] = unpack(packed, n, i);
            }
            size += n - out;
        }
    }

    /**
     * What a scan found, in the order of the text: tokens, and behind them the failure, if there
     * is one, as a finding without symbols. None begins at the text's end, so that there are at
     * most as many as symbols.
     */
    private static final class Findings {
        private final int[] begins = new int[MOST_SYMBOLS];
        private final int[] lengths = new int[MOST_SYMBOLS];
        private final int[] kinds = new int[MOST_SYMBOLS];
        private final int[] looks = new int[MOST_SYMBOLS];
        private int size;

        void forget() {
            size = 0;
        }

        int size() {
            return size;
        }

        boolean failed() {
            return size > 0 && lengths[size - 1] == 0;
        }

        int tokens() {
            return failed() ? size - 1 : size;
        }

        int begin(int i) {
            return has(i) ? begins[i] : NONE;
        }

        int length(int i) {
            return has(i) ? lengths[i] : NONE;
        }

        int kindFound(int i) {
            return has(i) ? kinds[i] : NONE;
        }

        int looked(int i) {
            return has(i) ? looks[i] : NONE;
        }

        int nextBegin() {
            return size > 0 ? begins[size - 1] + lengths[size - 1] : 0;
        }

        int tokenAround(int place) {
            for (int i = 0; i < size; i++) {
                if (place >= begins[i] && place < begins[i] + lengths[i]) {
                    return i;
                }
            }
            return NONE;
        }

        /** The first one that looked at a place or at one behind it; the size if there is none. */
        int firstThatLookedAt(int place) {
            for (int i = 0; i < size; i++) {
                if (begins[i] + looks[i] > place) {
                    return i;
                }
            }
            return size;
        }

        /** The first one, not ahead of i, that begins at a place or behind it; else the size. */
        int firstFrom(int i, int place) {
            for (int at = Math.max(i, 0); at < size; at++) {
                if (begins[at] >= place) {
                    return at;
                }
            }
            return size;
        }

        void add(int begin, int length, int kind, int looked) {
            if (size >= MOST_SYMBOLS) {
                return;
            }
            begins[size] = begin;
            lengths[size] = length;
            kinds[size] = kind;
            looks[size] = looked;
            size++;
        }

        void takeUpTo(Findings other, int bound) {
            size = 0;
            for (int i = 0; i < bound && i < other.size; i++) {
                add(other.begins[i], other.lengths[i], other.kinds[i], other.looks[i]);
            }
        }

        void takeMoved(Findings other, int from, int moved) {
            for (int i = Math.max(from, 0); i < other.size; i++) {
                add(other.begins[i] + moved, other.lengths[i], other.kinds[i], other.looks[i]);
            }
        }

        private boolean has(int i) {
            return i >= 0 && i < size;
        }
    }
}
