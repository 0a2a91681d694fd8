import java.util.ArrayList;
import java.util.List;

/**
 * Promises 2 to 13: "when there is no such lock or node", and its like. Every number next to a boundary, at the ends of
 * int, and those that a careless sum or mask would take for a good one, each for every argument of every method, on
 * objects in several states: a wrong argument is IllegalArgumentException, whatever the state; a good one never is.
 */
public final class EdgeArgumentsTest {
    private static final int[] NUMBERS = {
        0, 1, 2, 3, 4, 5, 6, 7, 8, 9, 15, 16, 17, 19, 20, 21, 100, 101, 255, 256, 257, 65535, 65536, 65539,
        -1, -2, -3, -4, -5, -8, -16, -101, -255, -256, -65536,
        1 << 28, 1 << 29, 1 << 30, (1 << 30) + 1, (1 << 30) + 3, 3 << 29, -(1 << 30), -(1 << 28),
        Integer.MAX_VALUE, Integer.MAX_VALUE - 1, Integer.MAX_VALUE - 3,
        Integer.MIN_VALUE, Integer.MIN_VALUE + 1, Integer.MIN_VALUE + 3
    };

    private static final String[] STATES = {
        "",
        "want 0 1 = done; want 1 1 = done; want 2 1 = done; want 0 3 = done; want 1 3 = done; want 2 3 = done",
        "want 1 0 = done; want 2 0 = done; start 0 = done; start 3 = done; begin 0 = done; spread 0 1 = done; deliver 0 1 = 3",
        "begin 3 = done; spread 3 2 = done; rest 3 = done; start 1 = done; want 0 2 = done; deliver 2 0 = 0"
    };

    public static void main(String[] args) {
        for (String state : STATES) {
            oneNode(state);
            twoArguments(state);
        }
        counts();
        Run.end();
    }

    private static Run in(String state) {
        Run run = new Run("wrong arguments behind " + state, 7, 30);
        return state.isEmpty() ? run : run.calls(state);
    }

    private static void refusedOrNot(String state, String call, boolean isGood) {
        Run run = in(state);
        String got = run.answer(call);
        if (isGood) {
            Run.check(state + ": is " + call + " a wrong argument", got.equals(Model.ARGUMENT), false);
        } else {
            Run.check(state + ": " + call, got, Model.ARGUMENT);
        }
        Run.check(state + ": " + call, got, run.modelOf(run.made() - 1).answer(call));
    }

    private static void oneNode(String state) {
        for (String method : List.of("start", "begin", "rest")) {
            for (int node : NUMBERS) {
                refusedOrNot(state, method + " " + node, node >= 0 && node < 4);
            }
        }
    }

    private static void twoArguments(String state) {
        for (int a : NUMBERS) {
            for (int b : NUMBERS) {
                boolean isNode = b >= 0 && b < 4;
                for (String method : List.of("want", "leave")) {
                    refusedOrNot(state, method + " " + a + " " + b, a >= 0 && a < 3 && isNode);
                }
                for (String method : List.of("about", "more")) {
                    refusedOrNot(state, method + " " + a + " " + b, a >= 0 && a < 5 && isNode);
                }
                for (String method : List.of("spread", "deliver", "first", "waiting")) {
                    refusedOrNot(state, method + " " + a + " " + b, a >= 0 && a < 4 && isNode && a != b);
                }
            }
        }
    }

    /** All four counts are told apart, and none of them is -1. */
    private static void counts() {
        String state = """
            want 1 0 = done; leave 1 0 = done; want 1 0 = done; want 2 0 = done; want 0 2 = done; start 0 = done
            begin 1 = done; rest 1 = done; begin 2 = done; count 0 = 3; count 1 = 4; count 2 = 1; count 3 = 2
            """;
        List<Integer> others = new ArrayList<>();
        for (int what : NUMBERS) {
            if (what < 0 || what > 3) {
                others.add(what);
            }
        }
        Run run = in(state);
        for (int what : others) {
            run.calls("count " + what + " = -1");
        }
        run.calls("count 0 = 3; count 1 = 4; count 2 = 1; count 3 = 2");
    }
}
