import java.util.Random;

/**
 * Runs of calls picked at random (from fixed seeds), in each of which the object must answer as the model does, up to
 * its 512th call. What the services are for must hold behind every call: at most one node is in a lock, no message is
 * lost, work is found to have ended only when it has; and once everything is delivered every wait has come to its end.
 * That is looked for in the model, as looking takes calls too.
 */
public final class RandomRunsTest {
    private static final int RUNS = 1500;
    private static final int[] ODD_NUMBERS = {
        -1, 4, 5, 6, -2, -4, 7, 8, 16, 256, 1 << 30, 1 << 31, -(1 << 30), Integer.MAX_VALUE, Integer.MIN_VALUE + 1
    };

    private final Random random;
    private final Run run;
    private final Model model;
    private final String name;
    /** How many of the nodes are still given a call or a message; the others let theirs pile up. */
    private final int awake;
    private int delivered = 0;

    private RandomRunsTest(int seed) {
        random = new Random(seed);
        name = "seed " + seed;
        awake = 2 + seed % 3;
        int id = seed % 2 == 0 ? random.nextInt() : random.nextInt(203) - 101;
        int step = seed % 2 == 0 ? random.nextInt() : random.nextInt(203) - 101;
        run = new Run(name, id, step);
        model = new Model(id, step);
    }

    public static void main(String[] args) {
        for (int seed = 0; seed < RUNS; seed++) {
            RandomRunsTest test = new RandomRunsTest(seed);
            int calls = seed % 3 == 0 ? 200 : Run.MOST_CALLS;
            for (int i = 0; i < calls; i++) {
                test.call(test.pick());
                test.checkSafety();
            }
            if (calls < Run.MOST_CALLS) {
                test.finish();
            }
            test.lookAtAll();
        }
        Run.end();
    }

    private void call(String call) {
        String due = model.answer(call);
        if (run.made() < Run.MOST_CALLS) {
            Run.check(name + ", call " + (run.made() + 1) + ": " + call, run.answer(call), due);
        }
        if (call.startsWith("deliver") && !due.startsWith("throws.")) {
            delivered++;
        }
    }

    /** Most calls are such as can be done just then; else hardly any service would get far. */
    private String pick() {
        String call = pickAny();
        for (int i = 0; i < 6 && isRefused(call); i++) {
            call = pickAny();
        }
        return call;
    }

    private boolean isRefused(String call) {
        String[] words = call.split(" ");
        switch (words[0]) {
            case "want": return !model.answer("about " + words[1] + " " + words[2]).equals("0");
            case "leave": return !model.answer("about " + words[1] + " " + words[2]).equals("2");
            case "deliver": return model.answer("first " + words[1] + " " + words[2]).equals("-1");
            default: return false;
        }
    }

    private String pickAny() {
        switch (random.nextInt(16)) {
            case 0, 1: return "want " + number(3) + " " + number(awake);
            case 2, 3: return "leave " + number(3) + " " + number(awake);
            case 4: return "start " + number(awake);
            case 5: return "begin " + number(awake);
            case 6, 7: return "spread " + number(awake) + " " + number(awake);
            case 8: return "rest " + number(awake);
            case 9: return random.nextInt(5) == 0 ? "count " + number(4) : look();
            default: return "deliver " + number(awake) + " " + number(awake);
        }
    }

    private String look() {
        switch (random.nextInt(4)) {
            case 0: return "first " + number(4) + " " + number(4);
            case 1: return "waiting " + number(4) + " " + number(4);
            case 2: return "about " + number(5) + " " + number(4);
            default: return "more " + number(5) + " " + number(4);
        }
    }

    private int number(int bound) {
        return random.nextInt(100) == 0 ? ODD_NUMBERS[random.nextInt(ODD_NUMBERS.length)] : random.nextInt(bound);
    }

    private int told(String call) {
        return Integer.parseInt(model.answer(call));
    }

    private void checkSafety() {
        for (int lock = 0; lock < 3; lock++) {
            int in = 0;
            for (int node = 0; node < 4; node++) {
                in += told("about " + lock + " " + node) == 2 ? 1 : 0;
            }
            Run.check(name + ": at most one is in lock " + lock, in <= 1, true);
        }
        Run.check(name + ": sent and not lost", told("count 1"), delivered + allWaiting());
        if (told("count 3") == -1) {
            for (int node = 0; node < 4; node++) {
                Run.check(name + ": no work is left at " + node + " without a root", told("about 4 " + node), 0);
            }
        }
    }

    private int allWaiting() {
        int all = 0;
        for (int from = 0; from < 4; from++) {
            for (int to = 0; to < 4; to++) {
                all += from == to ? 0 : told("waiting " + from + " " + to);
            }
        }
        return all;
    }

    /** Behind the last of the calls that are made the object must look as the model does. */
    private void lookAtAll() {
        int calls = Math.min(run.made(), Run.MOST_CALLS - Run.looks().size());
        Model same = run.modelOf(calls);
        Run.check(name + ": what is seen behind " + calls + " calls", run.again(calls).seen(), same.seen());
    }

    private void finish() {
        for (int round = 0; round < 5000 && !isStill(); round++) {
            for (int node = 0; node < 4; node++) {
                leaveAll(node);
                deliverOneToEach(node);
            }
            checkSafety();
        }
        Run.check(name + ": comes to its end", isStill(), true);
        for (int node = 0; node < 4; node++) {
            for (int lock = 0; lock < 3; lock++) {
                Run.check(name + ": nobody waits for lock " + lock, told("about " + lock + " " + node), 0);
            }
            Run.check(name + ": nobody works", told("about 4 " + node), 0);
            Run.check(name + ": nobody takes part", told("more 3 " + node) < 1000, true);
            Run.check(name + ": all know the same leader", told("about 3 " + node), told("about 3 0"));
        }
        Run.check(name + ": no root", told("count 3"), -1);
    }

    private void leaveAll(int node) {
        for (int lock = 0; lock < 3; lock++) {
            if (told("about " + lock + " " + node) == 2) {
                call("leave " + lock + " " + node);
            }
        }
        if (told("about 4 " + node) % 2 == 1) {
            call("rest " + node);
        }
    }

    private void deliverOneToEach(int from) {
        for (int to = 0; to < 4; to++) {
            if (from != to && told("waiting " + from + " " + to) > 0) {
                call("deliver " + from + " " + to);
            }
        }
    }

    private boolean isStill() {
        boolean held = false;
        for (int node = 0; node < 4; node++) {
            for (int lock = 0; lock < 3; lock++) {
                held |= told("about " + lock + " " + node) == 2;
            }
            held |= told("about 4 " + node) % 2 == 1;
        }
        return !held && allWaiting() == 0;
    }
}
