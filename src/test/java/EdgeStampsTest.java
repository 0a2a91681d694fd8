/** 'Terms', 0 STAMPS: each sentence that names an edge. */
public final class EdgeStampsTest {
    /** Node 0 comes in and leaves again, so that all clocks are 1 and all channels are empty. */
    private static final String ZERO_GOES_ROUND = """
        want 0 0 = done
        deliver 0 1 = 0; deliver 1 0 = 0; deliver 0 2 = 0; deliver 2 0 = 0; deliver 0 3 = 0; deliver 3 0 = 0
        leave 0 0 = done
        """;

    public static void main(String[] args) {
        clockBecomesWhatIsMore();
        lesserStampPutsOff();
        sameStamps();
        idleNeverPutsOff();
        inPutsOff();
        thirdReply();
        noneIsPutOffThen();
        Run.end();
    }

    private static void clockBecomesWhatIsMore() {
        Run.of("its clock becomes t, if that is more: t is 1 more", "want 0 3 = done; deliver 3 0 = 0; more 0 0 = 1");
        Run.of("its clock becomes t, if that is more: t is the same", """
            want 0 3 = done; want 0 0 = done; more 0 0 = 1; deliver 3 0 = 0; more 0 0 = 1; more 0 3 = 1
            """);
        Run.of("its clock becomes t, if that is more: t is 1 less", """
            want 0 3 = done; want 0 0 = done; deliver 0 1 = 0; want 0 1 = done; more 0 1 = 2
            deliver 3 1 = 0; more 0 1 = 2
            """);
        Run.of("its clock becomes t, if that is more: t is 3 more", """
            want 0 0 = done; deliver 0 1 = 0; want 0 1 = done; deliver 1 2 = 0; want 0 2 = done; more 0 2 = 3
            deliver 2 3 = 0; more 0 3 = 3; want 0 3 = done; more 0 3 = 4
            # 2 less, and 1 less: it stays
            deliver 0 3 = 0; more 0 3 = 4; deliver 1 3 = 0; more 0 3 = 4
            """);
        new Run("a REPLY leaves the clock alone", 7, 30).calls(ZERO_GOES_ROUND).calls("""
            want 0 1 = done; more 0 1 = 2; deliver 1 0 = 0; deliver 0 1 = 0; more 0 1 = 2; more 0 0 = 2; more 0 2 = 1
            """);
    }

    private static void lesserStampPutsOff() {
        Run.of("its stamp is less than t, by 1", """
            want 0 3 = done; deliver 3 0 = 0; want 0 0 = done; more 0 0 = 2
            deliver 0 3 = 0; deliver 0 3 = 0; waiting 3 0 = 0; more 0 3 = 2
            """);
        Run.of("its stamp is more than t, by 1, its number less", """
            want 0 3 = done; want 0 2 = done; deliver 2 0 = 0; want 0 0 = done; more 0 0 = 2
            deliver 3 0 = 0; first 0 3 = 1; waiting 0 3 = 2; deliver 0 3 = 0; first 0 3 = 10
            """);
        Run.of("its stamp is less than t, by 1, its number more", """
            want 0 2 = done; deliver 2 1 = 0; want 0 1 = done; more 0 1 = 2; deliver 1 2 = 0
            deliver 1 2 = 0; waiting 2 1 = 0; count 1 = 7; more 0 2 = 2
            """);
    }

    private static void sameStamps() {
        for (int i = 0; i < 4; i++) {
            for (int j = 0; j < 4; j++) {
                if (i != j) {
                    Run run = new Run("the same and its number is less than j: " + i + " and j = " + j, 7, 30);
                    run.calls("want 0 " + j + " = done; want 0 " + i + " = done; deliver " + j + " " + i + " = 0");
                    run.calls("waiting " + i + " " + j + " = " + (i < j ? 1 : 2));
                }
            }
        }
    }

    private static void idleNeverPutsOff() {
        new Run("idle, with an old stamp that is less than t", 7, 30).calls(ZERO_GOES_ROUND).calls("""
            want 0 2 = done; more 0 2 = 2; deliver 2 0 = 0; first 0 2 = 10; count 1 = 10
            """);
        Run.of("idle, and never waited", "want 0 0 = done; deliver 0 3 = 0; first 3 0 = 10");
        Run.of("waiting for another lock, or in another lock, is idle here", """
            want 1 0 = done; want 2 0 = done; about 1 0 = 2; about 2 0 = 2
            want 1 3 = done; want 2 3 = done; want 0 1 = done
            deliver 1 0 = 0; first 0 1 = 10; deliver 1 3 = 0; waiting 3 1 = 3
            """);
    }

    private static void inPutsOff() {
        for (int j = 0; j < 4; j++) {
            if (j != 2) {
                Run run = new Run("if it is in, j is put off: j = " + j, 7, 30);
                run.calls("""
                    want 0 2 = done
                    deliver 2 0 = 0; deliver 0 2 = 0; deliver 2 1 = 0; deliver 1 2 = 0; deliver 2 3 = 0; deliver 3 2 = 0
                    about 0 2 = 2
                    """);
                run.calls("want 0 " + j + " = done; deliver " + j + " 2 = 0; waiting 2 " + j + " = 0; count 1 = 9");
                run.calls("leave 0 2 = done; first 2 " + j + " = 10; count 1 = 10");
            }
        }
    }

    /** In every order of the replies the second leaves it waiting and the third makes it in, each time anew. */
    private static void thirdReply() {
        for (int node = 0; node < 4; node++) {
            int[] others = {(node + 1) % 4, (node + 2) % 4, (node + 3) % 4};
            for (int order = 0; order < 6; order++) {
                int a = others[order % 3];
                int b = others[(order % 3 + 1 + order / 3) % 3];
                int c = others[(order % 3 + 2 - order / 3) % 3];
                Run run = new Run("the third one since it is waiting makes it in: " + node + " by " + a + b + c, 7, 30);
                for (int wait = 1; wait <= 3; wait++) {
                    run.calls("want 0 " + node + " = done");
                    for (int other : others) {
                        run.calls("deliver " + node + " " + other + " = 0");
                    }
                    run.calls("about 0 " + node + " = 1; count 0 = " + (wait - 1));
                    run.calls("deliver " + a + " " + node + " = 0; about 0 " + node + " = 1");
                    run.calls("leave 0 " + node + " = throws.IllegalStateException");
                    run.calls("deliver " + b + " " + node + " = 0; about 0 " + node + " = 1");
                    run.calls("leave 0 " + node + " = throws.IllegalStateException; count 0 = " + (wait - 1));
                    run.calls("deliver " + c + " " + node + " = 0; about 0 " + node + " = 2; count 0 = " + wait);
                    run.calls("leave 0 " + node + " = done; about 0 " + node + " = 0");
                }
            }
        }
        Run.of("messages of other services are no replies", """
            want 0 0 = done; deliver 0 1 = 0; deliver 1 0 = 0; deliver 0 2 = 0; deliver 2 0 = 0; about 0 0 = 1
            want 1 3 = done; want 2 1 = done; start 3 = done; begin 3 = done; spread 3 0 = done; want 0 3 = done
            deliver 3 0 = 1; about 0 0 = 1; deliver 3 0 = 3; about 0 0 = 1; deliver 3 0 = 4; about 0 0 = 1
            deliver 1 0 = 2; about 0 0 = 1; deliver 3 0 = 0; about 0 0 = 1
            deliver 0 3 = 0; about 0 0 = 1; deliver 0 3 = 1; deliver 3 0 = 0; about 0 0 = 2
            """);
    }

    private static void noneIsPutOffThen() {
        String zeroIsIn = """
            want 0 0 = done
            deliver 0 1 = 0; deliver 1 0 = 0; deliver 0 2 = 0; deliver 2 0 = 0; deliver 0 3 = 0; deliver 3 0 = 0
            about 0 0 = 2
            """;
        new Run("none was put off: no REPLY", 7, 30).calls(zeroIsIn).calls("count 1 = 6; leave 0 0 = done; count 1 = 6");
        new Run("one was put off: one REPLY", 7, 30).calls(zeroIsIn).calls("""
            want 0 2 = done; deliver 2 0 = 0; count 1 = 9; leave 0 0 = done; count 1 = 10
            first 0 2 = 10; first 0 1 = -1; first 0 3 = -1
            """);
        new Run("all others were put off: three", 7, 30).calls(zeroIsIn).calls("""
            want 0 3 = done; want 0 2 = done; want 0 1 = done; deliver 3 0 = 0; deliver 2 0 = 0; deliver 1 0 = 0
            count 1 = 15; leave 0 0 = done; count 1 = 18; first 0 1 = 10; first 0 2 = 10; first 0 3 = 10
            """);
        new Run("what was put off while it waited, and while it was in", 7, 30).calls("""
            want 0 0 = done; want 0 3 = done; deliver 3 0 = 0; waiting 0 3 = 1
            deliver 0 1 = 0; deliver 1 0 = 0; deliver 0 2 = 0; deliver 2 0 = 0; deliver 0 3 = 0; deliver 3 0 = 0
            about 0 0 = 2; want 0 1 = done; deliver 1 0 = 0; waiting 0 1 = 0; waiting 0 3 = 0
            leave 0 0 = done; first 0 1 = 10; first 0 2 = -1; first 0 3 = 10
            """);
        for (int node = 0; node < 4; node++) {
            for (int other = 0; other < 4; other++) {
                if (node != other) {
                    nextLeaveSendsNothing(node, other);
                }
            }
        }
    }

    private static void nextLeaveSendsNothing(int node, int other) {
        Run run = new Run("none is put off then: " + node + " had put off " + other, 7, 30);
        run.calls("want 0 " + node + " = done");
        getAllReplies(run, node);
        run.calls("want 0 " + other + " = done; deliver " + other + " " + node + " = 0; count 1 = 9");
        run.calls("leave 0 " + node + " = done; count 1 = 10; first " + node + " " + other + " = 10");
        run.calls("deliver " + node + " " + other + " = 0");
        for (int third = 0; third < 4; third++) {
            if (third != node && third != other) {
                run.calls("deliver " + other + " " + third + " = 0; deliver " + third + " " + other + " = 0");
            }
        }
        run.calls("about 0 " + other + " = 2; leave 0 " + other + " = done; want 0 " + node + " = done");
        getAllReplies(run, node);
        run.calls("count 1 = 18; leave 0 " + node + " = done; count 1 = 18");
    }

    private static void getAllReplies(Run run, int node) {
        for (int other = 0; other < 4; other++) {
            if (other != node) {
                run.calls("deliver " + node + " " + other + " = 0; deliver " + other + " " + node + " = 0");
            }
        }
        run.calls("about 0 " + node + " = 2");
    }
}
