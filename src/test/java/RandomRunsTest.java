import java.util.NoSuchElementException;
import java.util.Random;

/**
 * Runs of calls picked at random (from fixed seeds), in which what the services are for must hold behind every call:
 * at most one node is in a lock, no message is lost, work is found to have ended only when it has. At the end of a run
 * everything is delivered, and then every wait must have come to its end.
 */
public final class RandomRunsTest {
    private static final int RUNS = 3000;
    private static final int CALLS = 400;

    private final Random random;
    private final NodeServices services;
    private final String name;
    private int delivered = 0;
    /** How many of the nodes are still given a call or a message; the others let theirs pile up. */
    private final int awake;

    private RandomRunsTest(int seed) {
        random = new Random(seed);
        name = "seed " + seed;
        awake = 2 + seed % 3;
        services = new NodeServices(random.nextInt(), random.nextInt());
    }

    public static void main(String[] args) {
        for (int seed = 0; seed < RUNS; seed++) {
            RandomRunsTest run = new RandomRunsTest(seed);
            for (int i = 0; i < CALLS; i++) {
                run.callAny();
                run.checkSafety();
            }
            run.finish();
        }
        Run.end();
    }

    private void callAny() {
        int a = random.nextInt(awake);
        int b = random.nextInt(awake);
        try {
            switch (random.nextInt(12)) {
                case 0, 1: services.want(random.nextInt(3), a); break;
                case 2, 3: services.leave(random.nextInt(3), a); break;
                case 4: services.start(a); break;
                case 5: services.begin(a); break;
                case 6: services.spread(a, b); break;
                case 7: services.rest(a); break;
                default: services.deliver(a, b); delivered++; break;
            }
        } catch (IllegalArgumentException e) {
            Run.check(name + ": an IllegalArgumentException only for a node and itself", a == b, true);
        } catch (IllegalStateException | NoSuchElementException e) {
            // much of what is picked can't be done just then
        }
    }

    private void checkSafety() {
        for (int lock = 0; lock < 3; lock++) {
            int in = 0;
            for (int node = 0; node < 4; node++) {
                in += services.about(lock, node) == 2 ? 1 : 0;
            }
            Run.check(name + ": at most one is in lock " + lock, in <= 1, true);
        }
        Run.check(name + ": sent and not lost", services.count(1), delivered + allWaiting());
        if (services.count(3) == -1) {
            for (int node = 0; node < 4; node++) {
                Run.check(name + ": no work is left at " + node + " without a root", services.about(4, node), 0);
            }
        }
    }

    private int allWaiting() {
        int all = 0;
        for (int from = 0; from < 4; from++) {
            for (int to = 0; to < 4; to++) {
                all += from == to ? 0 : services.waiting(from, to);
            }
        }
        return all;
    }

    private void finish() {
        for (int round = 0; round < 5000 && !isStill(); round++) {
            for (int node = 0; node < 4; node++) {
                leaveAll(node);
                deliverOneToEach(node);
            }
            checkSafety();
        }
        Run.check(name + ": comes to its end", isStill(), true);
        for (int node = 0; node < 4; node++) {
            for (int service = 0; service < 3; service++) {
                Run.check(name + ": nobody waits for lock " + service, services.about(service, node), 0);
            }
            Run.check(name + ": nobody works", services.about(4, node), 0);
            Run.check(name + ": nobody takes part", services.more(3, node) < 1000, true);
            Run.check(name + ": all know the same leader", services.about(3, node), services.about(3, 0));
        }
        Run.check(name + ": no root", services.count(3), -1);
    }

    private void leaveAll(int node) {
        for (int lock = 0; lock < 3; lock++) {
            if (services.about(lock, node) == 2) {
                services.leave(lock, node);
            }
        }
        if (services.about(4, node) % 2 == 1) {
            services.rest(node);
        }
    }

    private void deliverOneToEach(int from) {
        for (int to = 0; to < 4; to++) {
            if (from != to && services.waiting(from, to) > 0) {
                services.deliver(from, to);
                delivered++;
            }
        }
    }

    private boolean isStill() {
        boolean held = false;
        for (int node = 0; node < 4; node++) {
            for (int lock = 0; lock < 3; lock++) {
                held |= services.about(lock, node) == 2;
            }
            held |= services.about(4, node) % 2 == 1;
        }
        return !held && allWaiting() == 0;
    }
}
