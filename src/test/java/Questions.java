import java.util.ArrayList;
import java.util.List;
import java.util.function.ToIntFunction;

/** Calls that only ask, with arguments in and around a text, so that two states can be compared. */
final class Questions {
    /** So many are asked twice, beside the calls that make an object, within its 512 calls. */
    static final int PART = 200;
    private static final int[] FAR = {Integer.MIN_VALUE, -2, -1, 400, 401, Integer.MAX_VALUE};

    record Question(String name, ToIntFunction<EditedScanner> call) {
    }

    private final List<Question> all = new ArrayList<>();

    /** Every answer that a text of so many symbols with so many tokens has, and some it has not. */
    Questions(int symbols, int tokens) {
        for (int what = -1; what <= 7; what++) {
            count(what);
        }
        for (int i = 0; i <= tokens; i++) {
            token(i);
        }
        for (int place = 0; place <= symbols; place++) {
            place(place);
        }
        for (int far : FAR) {
            token(far);
            place(far);
        }
    }

    private void count(int what) {
        all.add(new Question("count(" + what + ")", x -> x.count(what)));
    }

    private void token(int i) {
        for (int what = 0; what <= 4; what++) {
            int asked = what;
            all.add(new Question("token(" + i + ", " + what + ")", x -> x.token(i, asked)));
        }
    }

    private void place(int place) {
        all.add(new Question("tokenAt(" + place + ")", x -> x.tokenAt(place)));
        all.add(new Question("symbol(" + place + ")", x -> x.symbol(place)));
    }

    List<List<Question>> parts() {
        List<List<Question>> parts = new ArrayList<>();
        for (int from = 0; from < all.size(); from += PART) {
            parts.add(all.subList(from, Math.min(from + PART, all.size())));
        }
        return parts;
    }

    static int[] answers(List<Question> part, EditedScanner x) {
        int[] answers = new int[part.size()];
        for (int i = 0; i < answers.length; i++) {
            answers[i] = part.get(i).call().applyAsInt(x);
        }
        return answers;
    }
}
