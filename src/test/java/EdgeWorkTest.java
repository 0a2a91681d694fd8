/** 'Terms', 4 WORK: each sentence that names an edge; and the bounds of promises 5 to 7. */
public final class EdgeWorkTest {
    public static void main(String[] args) {
        onlyWhenThereIsNoRoot();
        rootParentOrNeither();
        twentyAreNotAnswered();
        busyOrNot();
        allAreAnsweredOrNot();
        theEnd();
        Run.end();
    }

    private static void onlyWhenThereIsNoRoot() {
        for (int root = 0; root < 4; root++) {
            Run run = new Run("only when there is no root: " + root + " is", 7, 30);
            run.calls("count 3 = -1; begin " + root + " = done; count 3 = " + root);
            for (int node = 0; node < 4; node++) {
                run.calls("begin " + node + " = throws.IllegalStateException");
            }
            run.calls("count 3 = " + root + "; rest " + root + " = done; count 3 = -1; begin 1 = done; count 3 = 1");
        }
        Run.of("when there is a root that is not busy", """
            begin 0 = done; spread 0 1 = done; rest 0 = done; count 3 = 0
            begin 0 = throws.IllegalStateException; begin 1 = throws.IllegalStateException
            begin 2 = throws.IllegalStateException; begin 3 = throws.IllegalStateException
            """);
        Run.of("or a node that is busy, has a parent or isn't answered everything", """
            begin 0 = done; spread 0 1 = done; rest 0 = done; deliver 0 1 = 4
            # 1 is busy and has a parent
            begin 1 = throws.IllegalStateException; begin 3 = throws.IllegalStateException
            spread 1 2 = done; rest 1 = done
            # 1 is not busy, has a parent, and isn't answered
            begin 1 = throws.IllegalStateException; begin 3 = throws.IllegalStateException
            deliver 1 2 = 4; rest 2 = done; begin 2 = throws.IllegalStateException
            deliver 2 1 = 4; about 4 1 = 0; begin 1 = throws.IllegalStateException; begin 3 = throws.IllegalStateException
            # the last ANSWER ends it
            deliver 1 0 = 4; count 3 = -1; begin 3 = done; count 3 = 3
            """);
    }

    private static void rootParentOrNeither() {
        Run.of("if it is the root: ANSWER, no parent", """
            begin 0 = done; spread 0 1 = done; deliver 0 1 = 4; spread 1 0 = done; deliver 1 0 = 4
            first 0 1 = 410; more 4 0 = -1; about 4 0 = 7
            """);
        Run.of("if it is the root and rests: ANSWER, and it is busy", """
            begin 0 = done; spread 0 1 = done; deliver 0 1 = 4; spread 1 0 = done; rest 0 = done; about 4 0 = 6
            deliver 1 0 = 4; first 0 1 = 410; more 4 0 = -1; about 4 0 = 7
            """);
        for (int parent = 0; parent < 4; parent++) {
            int child = (parent + 1) % 4;
            int other = (parent + 2) % 4;
            Run run = new Run("neither: its parent is j; has a parent: ANSWER, j = " + parent, 7, 30);
            run.calls("begin " + parent + " = done; spread " + parent + " " + child + " = done");
            run.calls("spread " + parent + " " + child + " = done; spread " + parent + " " + other + " = done");
            run.calls("more 4 " + child + " = -1; about 4 " + child + " = 0");
            run.calls("deliver " + parent + " " + child + " = 4; more 4 " + child + " = " + parent);
            run.calls("about 4 " + child + " = 3; waiting " + child + " " + parent + " = 0");
            run.calls("deliver " + parent + " " + child + " = 4; more 4 " + child + " = " + parent);
            run.calls("about 4 " + child + " = 3; first " + child + " " + parent + " = 410");
            // from one that is not the parent
            run.calls("deliver " + parent + " " + other + " = 4; spread " + other + " " + child + " = done");
            run.calls("deliver " + other + " " + child + " = 4; more 4 " + child + " = " + parent);
            run.calls("first " + child + " " + other + " = 410; rest " + child + " = done; more 4 " + child + " = -1");
            run.calls("waiting " + child + " " + parent + " = 2; waiting " + child + " " + other + " = 1");
        }
        Run.of("has a parent, but is not busy: ANSWER, and it is busy", """
            begin 0 = done; spread 0 1 = done; deliver 0 1 = 4; spread 1 2 = done; rest 1 = done; about 4 1 = 6
            spread 0 1 = done; deliver 0 1 = 4; about 4 1 = 7; first 1 0 = 410; more 4 1 = 0
            """);
        Run.of("had a parent, and has none: it gets one", """
            begin 0 = done; spread 0 3 = done; deliver 0 3 = 4; rest 3 = done; more 4 3 = -1; spread 0 3 = done
            deliver 0 3 = 4; more 4 3 = 0; about 4 3 = 3; waiting 3 0 = 1
            """);
        Run.of("was the root: it gets a parent", """
            begin 1 = done; rest 1 = done; begin 0 = done; spread 0 1 = done; deliver 0 1 = 4; more 4 1 = 0
            about 4 1 = 3; waiting 1 0 = 0; rest 1 = done; count 2 = 1; count 3 = 0
            """);
    }

    private static void spreadTimes(Run run, int node, int to, int times) {
        for (int i = 0; i < times; i++) {
            run.calls("spread " + node + " " + to + " = done");
        }
    }

    private static void twentyAreNotAnswered() {
        Run run = new Run("20 of its messages aren't answered, all to one node", 7, 30).calls("begin 3 = done");
        spreadTimes(run, 3, 0, 19);
        run.calls("about 4 3 = 79; spread 3 0 = done; about 4 3 = 83; waiting 3 0 = 20; count 1 = 20");
        run.calls("spread 3 0 = throws.IllegalStateException; spread 3 1 = throws.IllegalStateException");
        run.calls("spread 3 2 = throws.IllegalStateException; about 4 3 = 83; waiting 3 0 = 20; count 1 = 20");
        run.calls("spread 3 3 = throws.IllegalArgumentException; spread 3 4 = throws.IllegalArgumentException");
        // delivered is not answered
        for (int i = 0; i < 20; i++) {
            run.calls("deliver 3 0 = 4");
        }
        run.calls("waiting 0 3 = 19; spread 3 0 = throws.IllegalStateException");
        run.calls("deliver 0 3 = 4; about 4 3 = 79; spread 3 1 = done; about 4 3 = 83");
        run.calls("spread 3 1 = throws.IllegalStateException; deliver 0 3 = 4; deliver 0 3 = 4; about 4 3 = 75");
        run.calls("spread 3 1 = done; spread 3 2 = done; spread 3 1 = throws.IllegalStateException");

        Run mixed = new Run("20 of its messages aren't answered, to all nodes together", 7, 30).calls("begin 0 = done");
        spreadTimes(mixed, 0, 1, 7);
        spreadTimes(mixed, 0, 2, 7);
        spreadTimes(mixed, 0, 3, 5);
        mixed.calls("about 4 0 = 79; spread 0 3 = done; about 4 0 = 83");
        mixed.calls("spread 0 1 = throws.IllegalStateException; spread 0 2 = throws.IllegalStateException");
        mixed.calls("spread 0 3 = throws.IllegalStateException; waiting 0 1 = 7; waiting 0 2 = 7; waiting 0 3 = 6");
        // each node has 20 of its own
        mixed.calls("deliver 0 1 = 4; about 4 1 = 3");
        spreadTimes(mixed, 1, 2, 20);
        mixed.calls("about 4 1 = 83; spread 1 3 = throws.IllegalStateException; deliver 0 3 = 4; spread 3 1 = done");

        Run rested = new Run("20 aren't answered, and it rests", 7, 30).calls("begin 0 = done");
        spreadTimes(rested, 0, 1, 20);
        rested.calls("rest 0 = done; about 4 0 = 82; spread 0 1 = throws.IllegalStateException");
        rested.calls("rest 0 = throws.IllegalStateException; count 3 = 0; count 2 = 0");
    }

    private static void busyOrNot() {
        Run.of("a busy node: never was", """
            spread 0 1 = throws.IllegalStateException; rest 0 = throws.IllegalStateException
            begin 1 = done; spread 0 1 = throws.IllegalStateException; rest 0 = throws.IllegalStateException
            """);
        Run.of("a busy node: WORK is on its way to it", """
            begin 1 = done; spread 1 0 = done; spread 0 1 = throws.IllegalStateException
            rest 0 = throws.IllegalStateException
            deliver 1 0 = 4; spread 0 1 = done; rest 0 = done
            """);
        Run.of("a busy node: the root", "begin 1 = done; spread 1 0 = done; rest 1 = done");
        Run.of("a busy node: it rests, not answered", """
            begin 1 = done; spread 1 0 = done; rest 1 = done; about 4 1 = 6
            spread 1 0 = throws.IllegalStateException; rest 1 = throws.IllegalStateException
            """);
        Run.of("a busy node: the work has ended", """
            begin 1 = done; rest 1 = done; spread 1 0 = throws.IllegalStateException; rest 1 = throws.IllegalStateException
            """);
    }

    private static void allAreAnsweredOrNot() {
        Run.of("a child isn't busy and all are answered: by REST", """
            begin 2 = done; spread 2 0 = done; deliver 2 0 = 4; waiting 0 2 = 0; rest 0 = done
            first 0 2 = 410; more 4 0 = -1; about 4 0 = 0; count 2 = 0
            """);
        Run.of("a child isn't busy, one isn't answered", """
            begin 2 = done; spread 2 0 = done; deliver 2 0 = 4; spread 0 3 = done; rest 0 = done
            waiting 0 2 = 0; more 4 0 = 2; about 4 0 = 6
            """);
        Run.of("a child is busy, all are answered", """
            begin 2 = done; spread 2 0 = done; deliver 2 0 = 4; spread 0 3 = done; deliver 0 3 = 4; rest 3 = done
            deliver 3 0 = 4; about 4 0 = 3; waiting 0 2 = 0; more 4 0 = 2; rest 0 = done; first 0 2 = 410
            """);
        Run.of("a child isn't busy: by the last ANSWER, not by the one before", """
            begin 2 = done; spread 2 0 = done; deliver 2 0 = 4; spread 0 3 = done; spread 0 3 = done; rest 0 = done
            deliver 0 3 = 4; deliver 0 3 = 4; about 4 0 = 10
            deliver 3 0 = 4; about 4 0 = 6; waiting 0 2 = 0; more 4 0 = 2
            rest 3 = done; deliver 3 0 = 4; about 4 0 = 0; first 0 2 = 410; more 4 0 = -1
            """);
        Run.of("the root isn't busy: by the last ANSWER, not by the one before", """
            begin 0 = done; spread 0 1 = done; spread 0 1 = done; rest 0 = done; deliver 0 1 = 4; deliver 0 1 = 4
            rest 1 = done; waiting 1 0 = 2; deliver 1 0 = 4; about 4 0 = 6; count 2 = 0; count 3 = 0
            deliver 1 0 = 4; about 4 0 = 0; count 2 = 1; count 3 = -1
            """);
        Run.of("the root is busy, all are answered", """
            begin 0 = done; spread 0 1 = done; deliver 0 1 = 4; rest 1 = done; deliver 1 0 = 4
            about 4 0 = 3; count 2 = 0; count 3 = 0; rest 0 = done; count 2 = 1; count 3 = -1
            """);
    }

    private static void theEnd() {
        for (int root = 0; root < 4; root++) {
            Run run = new Run("the work has ended: the root was " + root, 7, 30);
            run.calls("count 2 = 0; begin " + root + " = done; count 2 = 0; rest " + root + " = done; count 2 = 1");
            run.calls("count 3 = -1; about 4 " + root + " = 0; more 4 " + root + " = -1; count 1 = 0");
        }
        Run.of("a node that ends and is not the root ends nothing", """
            begin 0 = done; spread 0 1 = done; deliver 0 1 = 4; rest 1 = done; count 2 = 0; count 3 = 0; about 4 0 = 7
            """);
        Run.of("the number of ends grows by 1 each time", """
            begin 0 = done; rest 0 = done; count 2 = 1; begin 0 = done; rest 0 = done; count 2 = 2
            begin 3 = done; spread 3 0 = done; rest 3 = done; count 2 = 2; deliver 3 0 = 4; rest 0 = done; count 2 = 2
            deliver 0 3 = 4; count 2 = 3; count 3 = -1
            """);
    }
}
