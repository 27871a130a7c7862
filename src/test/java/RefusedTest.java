import java.util.ArrayList;
import java.util.Arrays;
import java.util.List;
import java.util.function.Supplier;
import java.util.function.ToIntFunction;

/**
 * "A call that is refused changes nothing": behind each refused call, in each of several states,
 * every other call answers as it did before.
 */
public final class RefusedTest {
    private static final Due due = new Due("RefusedTest");
    private static final int LEAST = Integer.MIN_VALUE;
    private static final int GREATEST = Integer.MAX_VALUE;

    record Call(String name, ToIntFunction<EditedScanner> call, int answer) {
    }

    record State(String name, Supplier<EditedScanner> make) {
    }

    public static void main(String[] args) {
        List<State> states = List.of(
            new State("a new object", EditedScanner::new),
            new State("an empty text", Samples::onesAndQuotes),
            new State("an emptied text", RefusedTest::emptied),
            new State("tokens", RefusedTest::tokens),
            new State("tokens and a failure", RefusedTest::tokensAndFailure),
            new State("400 tokens", Samples::fullOfSingles),
            new State("one token of 400", Samples::fullOfZeros),
            new State("400 with a failure", Samples::fullWithFailure));
        for (State state : states) {
            answersStay(state, refusedIn(state));
            callsBehindAnswerAsWithout(state, refusedIn(state));
        }
        State emptyMaze = new State("an empty maze", RefusedTest::maze);
        State fullMaze = new State("a full maze", RefusedTest::fullMaze);
        tableStays(emptyMaze, refusedIn(emptyMaze));
        tableStays(fullMaze, refusedIn(fullMaze));
        due.end();
    }

    private static EditedScanner emptied() {
        EditedScanner x = tokensAndFailure();
        x.edit(0, x.count(1), 0L, 0);
        return x;
    }

    private static EditedScanner tokens() {
        EditedScanner x = Samples.onesAndQuotes();
        Samples.edit(x, 0, 0, "1121122");
        return x;
    }

    private static EditedScanner tokensAndFailure() {
        EditedScanner x = tokens();
        Samples.edit(x, 3, 0, "13");
        return x;
    }

    /** From every state every symbol leads on, and all kinds differ; 9s lead to every state. */
    private static EditedScanner maze() {
        EditedScanner x = new EditedScanner();
        for (int state = 0; state < 20; state++) {
            x.kind(state, 5 * state + 4);
            for (int symbol = 0; symbol < 10; symbol++) {
                int to = symbol == 9 ? state + 1 : 7 * state + 3 * symbol;
                x.arrow(state, symbol, to % 20);
            }
        }
        return x;
    }

    private static EditedScanner fullMaze() {
        EditedScanner x = maze();
        Samples.fill(x, 400);
        return x;
    }

    private static List<Call> refusedIn(State state) {
        int size = state.make().get().count(1);
        List<Call> refused = new ArrayList<>();
        wrongArrows(refused);
        wrongKinds(refused);
        wrongEdits(refused, size);
        if (size > 0) {
            rightButForTheText(refused);
        }
        if (size == 400) {
            tooLong(refused);
        }
        return refused;
    }

    private static void arrow(List<Call> list, int state, int symbol, int to) {
        String name = "arrow(" + state + ", " + symbol + ", " + to + ")";
        list.add(new Call(name, x -> x.arrow(state, symbol, to) ? 1 : 0, 0));
    }

    private static void kind(List<Call> list, int state, int kind) {
        String name = "kind(" + state + ", " + kind + ")";
        list.add(new Call(name, x -> x.kind(state, kind) ? 1 : 0, 0));
    }

    private static void edit(List<Call> list, int place, int out, long symbols, int n) {
        String name = "edit(" + place + ", " + out + ", " + symbols + ", " + n + ")";
        list.add(new Call(name, x -> x.edit(place, out, symbols, n), -1));
    }

    private static void wrongArrows(List<Call> list) {
        for (int wrong : new int[] {LEAST, -1, 20, GREATEST}) {
            arrow(list, wrong, 1, 5);
        }
        for (int wrong : new int[] {LEAST, -1, 10, GREATEST}) {
            arrow(list, 1, wrong, 5);
        }
        for (int wrong : new int[] {LEAST, -2, 20, GREATEST}) {
            arrow(list, 1, 1, wrong);
        }
    }

    private static void wrongKinds(List<Call> list) {
        for (int wrong : new int[] {LEAST, -1, 20, GREATEST}) {
            kind(list, wrong, 50);
        }
        for (int wrong : new int[] {LEAST, -2, 100, GREATEST}) {
            kind(list, 1, wrong);
        }
    }

    private static void wrongEdits(List<Call> list, int size) {
        for (int wrong : new int[] {LEAST, -1, 17, GREATEST}) {
            edit(list, 0, 0, 0x1L, wrong);
        }
        for (int wrong : new int[] {LEAST, -1, size + 1, GREATEST}) {
            edit(list, wrong, 0, 0L, 0);
            edit(list, 0, wrong, 0L, 0);
        }
        edit(list, size, 1, 0L, 0);
        edit(list, size, GREATEST, 0L, 0);
        edit(list, GREATEST, GREATEST, 0L, 0);
        edit(list, LEAST, LEAST, 0L, 0);
        edit(list, 0, size, 0xaL, 1);
        edit(list, 0, size, 0xf111111111111111L, 16);
        edit(list, 0, size, Long.MAX_VALUE, 16);
    }

    private static void rightButForTheText(List<Call> list) {
        arrow(list, 0, 0, 0);
        arrow(list, 0, 1, -1);
        arrow(list, 19, 9, 19);
        kind(list, 0, 0);
        kind(list, 1, -1);
        kind(list, 19, 99);
    }

    private static void tooLong(List<Call> list) {
        edit(list, 0, 0, 1L, 1);
        edit(list, 400, 0, 1L, 1);
        edit(list, 200, 15, 0x1111111111111111L, 16);
    }

    private static Questions questions(EditedScanner x) {
        return new Questions(x.count(1), x.count(0));
    }

    private static void refuse(State state, Call refused, EditedScanner x) {
        due.is("in " + state.name() + " " + refused.name(),
            refused.call().applyAsInt(x), refused.answer());
    }

    private static String behind(State state, Call refused) {
        return "in " + state.name() + ", behind " + refused.name();
    }

    private static void compare(String when, List<Questions.Question> part, int[] got, int[] want) {
        for (int i = 0; i < got.length; i++) {
            due.is(when + " " + part.get(i).name(), got[i], want[i]);
        }
    }

    private static void answersStay(State state, List<Call> calls) {
        List<List<Questions.Question>> parts = questions(state.make().get()).parts();
        for (Call refused : calls) {
            for (List<Questions.Question> part : parts) {
                EditedScanner x = state.make().get();
                int[] before = Questions.answers(part, x);
                refuse(state, refused, x);
                compare(behind(state, refused), part, Questions.answers(part, x), before);
            }
        }
    }

    /** Calls that change something can't be asked twice: another object is not refused before. */
    private static void callsBehindAnswerAsWithout(State state, List<Call> calls) {
        for (Call next : changing(state.make().get().count(1))) {
            EditedScanner without = state.make().get();
            int answer = next.call().applyAsInt(without);
            List<Questions.Question> part = questions(without).parts().get(0);
            int[] want = Questions.answers(part, without);
            for (Call refused : calls) {
                EditedScanner x = state.make().get();
                refuse(state, refused, x);
                String when = behind(state, refused) + " " + next.name();
                due.is(when, next.call().applyAsInt(x), answer);
                compare(when, part, Questions.answers(part, x), want);
            }
        }
    }

    private static List<Call> changing(int size) {
        List<Call> next = new ArrayList<>();
        arrow(next, 0, 0, 0);
        kind(next, 0, 0);
        edit(next, 0, 0, 0L, 0);
        edit(next, size, 0, 0L, 0);
        edit(next, size / 2, size - size / 2, 0x11L, 2);
        edit(next, 0, size, 0x21122L, 5);
        next.add(new Call("clear()", EditedScanner::clear, 0));
        return next;
    }

    private static void tableStays(State state, List<Call> calls) {
        for (int from = 0; from < 20; from++) {
            int[] want = arrowsFrom(from, state.make().get());
            for (Call refused : calls) {
                EditedScanner x = state.make().get();
                refuse(state, refused, x);
                boolean stays = Arrays.equals(arrowsFrom(from, x), want);
                due.is(behind(state, refused) + " state " + from + " stays", stays, true);
            }
        }
    }

    /** Where each symbol leads from a state, and the kind there. */
    private static int[] arrowsFrom(int from, EditedScanner x) {
        int[] seen = new int[50];
        x.edit(0, x.count(1), 0L, 0);
        for (int symbol = 0; symbol < 10; symbol++) {
            String digits = "9".repeat(from) + symbol;
            int half = digits.length() / 2;
            Samples.edit(x, 0, 0, digits.substring(half));
            Samples.edit(x, 0, 0, digits.substring(0, half));
            for (int what = 0; what < 4; what++) {
                seen[5 * symbol + what] = x.token(0, what);
            }
            seen[5 * symbol + 4] = x.count(0);
            x.edit(0, from + 1, 0L, 0);
        }
        return seen;
    }
}
