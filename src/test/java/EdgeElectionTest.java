/** 'Terms', 3 ELECTION: each sentence that names an edge. */
public final class EdgeElectionTest {
    public static void main(String[] args) {
        roundTheRing();
        aboveBelowAndOwn();
        idsThatWrapAround();
        takesPartOrNot();
        leaderOwnOrNot();
        everyStarterAndEveryGreatest();
        Run.end();
    }

    private static void roundTheRing() {
        for (int node = 0; node < 4; node++) {
            int next = node == 3 ? 0 : node + 1;
            Run run = new Run("round the ring 0, 1, 2, 3, 0: START at " + node, 7, 30);
            run.calls("start " + node + " = done; count 1 = 1; first " + node + " " + next + " = 300");
            run.calls("deliver " + node + " " + next + " = 3; count 1 = 2");
            run.calls("first " + next + " " + (next == 3 ? 0 : next + 1) + " = 300");
        }
        Run.of("from 3 to 0: START, ELECT that goes on, LEADER", """
            start 3 = done; first 3 0 = 300; waiting 3 1 = 0; waiting 3 2 = 0
            deliver 3 0 = 3; deliver 0 1 = 3; deliver 1 2 = 3; deliver 2 3 = 3; first 3 0 = 310; waiting 3 2 = 0
            """);
        new Run("from 3 to 0: ELECT above 3's ID, and LEADER of another", 100, 100).calls("""
            more 3 0 = 100; more 3 3 = 97; start 0 = done; deliver 0 1 = 3; deliver 1 2 = 3; deliver 2 3 = 3
            first 3 0 = 300; more 3 3 = 1097; deliver 3 0 = 3; about 3 0 = 100; first 0 1 = 310
            deliver 0 1 = 3; deliver 1 2 = 3; deliver 2 3 = 3; first 3 0 = 310; about 3 3 = 100
            deliver 3 0 = 3; waiting 0 1 = 0; count 1 = 8
            """);
        Run.of("from 3 to 0: ELECT below 3's ID", """
            start 2 = done; deliver 2 3 = 3; first 3 0 = 300; more 3 3 = 1097; deliver 3 0 = 3; first 0 1 = 300
            """);
    }

    /** With the IDs 0, 1, 2, 3 neighbours differ by 1. */
    private static void aboveBelowAndOwn() {
        new Run("above its ID by 1", 3, 100).calls("""
            more 3 0 = 3; more 3 1 = 2; start 0 = done; deliver 0 1 = 3; more 3 1 = 1002; first 1 2 = 300
            # it is the 3 that went on: 2 stands above it no more
            deliver 1 2 = 3; deliver 2 3 = 3; deliver 3 0 = 3; about 3 0 = 3; more 3 0 = 3
            """);
        new Run("below its ID by 1", 0, 101).calls("""
            more 3 0 = 0; more 3 1 = 1; start 0 = done; deliver 0 1 = 3; more 3 1 = 1001; first 1 2 = 300
            # its own ID went on, so 0's does not come back to 0
            deliver 1 2 = 3; deliver 2 3 = 3; deliver 3 0 = 3; about 3 0 = -1; more 3 0 = 1000; first 0 1 = 300
            """);
        new Run("its own ID", 0, 0).calls("""
            start 3 = done; more 3 3 = 1003; about 3 3 = -1
            deliver 3 0 = 3; deliver 0 1 = 3; deliver 1 2 = 3; deliver 2 3 = 3
            more 3 3 = 3; about 3 3 = 3; first 3 0 = 310; waiting 3 0 = 1; count 1 = 5
            """);
    }

    private static void idsThatWrapAround() {
        new Run("the IDs 99, 100, 0, 1: 100 is the greatest", 99, 1).calls("""
            start 3 = done; deliver 3 0 = 3; more 3 0 = 1099; deliver 0 1 = 3; more 3 1 = 1100
            # 100 stands above 0 and 1
            deliver 1 2 = 3; more 3 2 = 1000; deliver 2 3 = 3; more 3 3 = 1001; deliver 3 0 = 3; deliver 0 1 = 3
            about 3 1 = 100; more 3 1 = 100; deliver 1 2 = 3; about 3 2 = 100; more 3 2 = 0
            deliver 2 3 = 3; deliver 3 0 = 3; about 3 3 = 100; about 3 0 = 100; deliver 0 1 = 3; waiting 1 2 = 0
            """);
        new Run("an ID of 0 is an ID", 0, 1).calls("""
            start 0 = done; more 3 0 = 1000; first 0 1 = 300; deliver 0 1 = 3; more 3 1 = 1001; about 3 0 = -1
            """);
    }

    private static void takesPartOrNot() {
        Run.of("below it: takes no part, so it does", """
            start 0 = done; more 3 1 = 37; deliver 0 1 = 3; more 3 1 = 1037; waiting 1 2 = 1; count 1 = 2
            start 1 = throws.IllegalStateException
            """);
        Run.of("below it: takes part, so nothing", """
            start 1 = done; start 0 = done; deliver 0 1 = 3; more 3 1 = 1037; waiting 1 2 = 1; count 1 = 2
            start 1 = throws.IllegalStateException
            """);
        Run.of("above it: takes no part, so it does", """
            start 3 = done; more 3 0 = 7; deliver 3 0 = 3; more 3 0 = 1007; waiting 0 1 = 1; count 1 = 2
            start 0 = throws.IllegalStateException
            """);
        Run.of("above it: takes part, and it goes on the same", """
            start 0 = done; start 3 = done; deliver 3 0 = 3; more 3 0 = 1007; waiting 0 1 = 2; count 1 = 3
            start 0 = throws.IllegalStateException
            """);
        Run.of("its own ID: it takes no part, and can start again", """
            start 3 = done; deliver 3 0 = 3; deliver 0 1 = 3; deliver 1 2 = 3; start 3 = throws.IllegalStateException
            deliver 2 3 = 3; more 3 3 = 97; start 3 = done; more 3 3 = 1097; about 3 3 = 97; first 3 0 = 311
            """);
        Run.of("LEADER: it takes no part, and can start again", """
            start 3 = done; deliver 3 0 = 3; deliver 0 1 = 3; deliver 1 2 = 3; deliver 2 3 = 3
            start 0 = throws.IllegalStateException; deliver 3 0 = 3; more 3 0 = 7; start 0 = done; more 3 0 = 1007
            start 0 = throws.IllegalStateException; start 1 = throws.IllegalStateException
            """);
        Run.of("LEADER: at one that takes no part", """
            start 3 = done; deliver 3 0 = 3; deliver 0 1 = 3; deliver 1 2 = 3; deliver 2 3 = 3
            deliver 3 0 = 3; start 3 = done; deliver 0 1 = 3; deliver 1 2 = 3; deliver 2 3 = 3; more 3 3 = 1097
            """);
    }

    private static void leaderOwnOrNot() {
        Run.of("LEADER, not its own ID: it goes on", """
            start 3 = done; deliver 3 0 = 3; deliver 0 1 = 3; deliver 1 2 = 3; deliver 2 3 = 3; about 3 0 = -1
            deliver 3 0 = 3; about 3 0 = 97; first 0 1 = 310; about 3 1 = -1
            deliver 0 1 = 3; about 3 1 = 97; first 1 2 = 310; about 3 2 = -1
            deliver 1 2 = 3; about 3 2 = 97; first 2 3 = 310; count 1 = 8
            """);
        Run.of("LEADER, its own ID: nothing, even if it takes part again", """
            start 3 = done; deliver 3 0 = 3; deliver 0 1 = 3; deliver 1 2 = 3; deliver 2 3 = 3
            deliver 3 0 = 3; deliver 0 1 = 3; deliver 1 2 = 3; start 3 = done; more 3 3 = 1097; count 1 = 9
            deliver 2 3 = 3; more 3 3 = 1097; about 3 3 = 97; waiting 3 0 = 1; first 3 0 = 300; count 1 = 9
            """);
    }

    /** Whoever starts, the node with the greatest ID wins; the steps put it at each place of the ring. */
    private static void everyStarterAndEveryGreatest() {
        int[][] idsAndSteps = {{7, 30}, {50, 40}, {100, 100}, {90, 5}, {0, 0}, {3, 49}, {70, 20}};
        for (int[] pair : idsAndSteps) {
            for (int starter = 0; starter < 4; starter++) {
                Run run = new Run("IDs of " + pair[0] + ", " + pair[1] + ", started by " + starter, pair[0], pair[1]);
                int greatest = -1;
                for (int node = 0; node < 4; node++) {
                    greatest = Math.max(greatest, Integer.parseInt(run.answer("more 3 " + node)));
                }
                run.calls("start " + starter + " = done");
                int at = starter;
                int messages = 0;
                while (messages < 20 && !run.answer("waiting " + at + " " + (at + 1) % 4).equals("0")) {
                    run.calls("deliver " + at + " " + (at + 1) % 4 + " = 3");
                    at = (at + 1) % 4;
                    messages++;
                }
                for (int node = 0; node < 4; node++) {
                    run.calls("about 3 " + node + " = " + greatest);
                    Run.check("takes part", Integer.parseInt(run.answer("more 3 " + node)) < 1000, true);
                }
                run.calls("count 1 = " + messages);
            }
        }
    }
}
