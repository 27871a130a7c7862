import java.util.ArrayList;
import java.util.Arrays;
import java.util.List;

/**
 * The document's words, taken one by one: the whole text is scanned at each edit, and only what
 * is read and scanned anew is counted by the rule of edits.
 */
final class PlainModel {
    /** A token, or a failure (of no symbols). */
    record Item(int begin, int length, int kind, int looked) {
        boolean lookedAtOrBehind(int place) {
            return begin + looked - 1 >= place;
        }
    }

    final int[][] arrows = new int[20][10];
    final int[] kinds = new int[20];
    List<Integer> text = new ArrayList<>();
    List<Item> items = new ArrayList<>();
    int read;
    int anew;
    int edits;

    PlainModel() {
        for (int state = 0; state < 20; state++) {
            Arrays.fill(arrows[state], -1);
            kinds[state] = -1;
        }
    }

    int edit(int place, int out, long symbols, int n) {
        if (n < 0 || n > 16 || place < 0 || out < 0 || (long) place + out > text.size()) {
            return -1;
        }
        List<Integer> in = new ArrayList<>();
        for (int i = 0; i < n; i++) {
            in.add(0, (int) (symbols >> 4 * i & 15));
        }
        if (in.stream().anyMatch(symbol -> symbol > 9) || text.size() - out + n > 400) {
            return -1;
        }
        List<Integer> before = text;
        text = new ArrayList<>(before.subList(0, place));
        text.addAll(in);
        text.addAll(before.subList(place + out, before.size()));
        edits++;
        countAnew(place, out, n, before.size());
        items = scanAll();
        return read;
    }

    private void countAnew(int place, int out, int n, int oldEnd) {
        read = 0;
        anew = 0;
        int begin = oldEnd == 0 ? 0 : -1;
        List<Integer> oldBegins = new ArrayList<>();
        for (Item item : items) {
            if (begin == -1 && item.lookedAtOrBehind(place)) {
                begin = item.begin;
            }
            oldBegins.add(item.begin);
        }
        oldBegins.add(oldEnd);
        while (begin != -1 && begin < text.size()) {
            int old = begin - n + out;
            if (begin >= place + n && old >= place + out && oldBegins.contains(old)) {
                return;
            }
            Item item = scan(begin);
            read += item.looked;
            anew += item.length > 0 ? 1 : 0;
            begin = item.length > 0 ? begin + item.length : -1;
        }
    }

    private List<Item> scanAll() {
        List<Item> found = new ArrayList<>();
        int begin = 0;
        while (begin < text.size()) {
            Item item = scan(begin);
            found.add(item);
            if (item.length == 0) {
                break;
            }
            begin += item.length;
        }
        return found;
    }

    private Item scan(int begin) {
        int state = 0;
        int place = begin;
        int length = 0;
        int kind = -1;
        while (place < text.size() && arrows[state][text.get(place)] != -1) {
            state = arrows[state][text.get(place)];
            place++;
            if (kinds[state] != -1) {
                length = place - begin;
                kind = kinds[state];
            }
        }
        return new Item(begin, length, kind, place + 1 - begin);
    }

    boolean failed() {
        return !items.isEmpty() && items.get(items.size() - 1).length == 0;
    }

    int tokens() {
        return failed() ? items.size() - 1 : items.size();
    }

    int token(int i, int what) {
        if (i < 0 || i >= tokens()) {
            return -1;
        }
        Item item = items.get(i);
        int[] answers = {item.begin, item.length, item.kind, item.looked};
        return what < 0 || what > 3 ? -1 : answers[what];
    }

    int tokenAt(int place) {
        for (int i = 0; i < tokens(); i++) {
            if (place >= items.get(i).begin && place < items.get(i).begin + items.get(i).length) {
                return i;
            }
        }
        return -1;
    }

    int symbol(int place) {
        return place < 0 || place >= text.size() ? -1 : text.get(place);
    }

    int count(int what) {
        Item last = items.isEmpty() ? null : items.get(items.size() - 1);
        int[] answers = {tokens(), text.size(), failed() ? last.begin : -1,
            failed() ? last.looked : 0, read, anew, edits};
        return what < 0 || what > 6 ? -1 : answers[what];
    }
}
