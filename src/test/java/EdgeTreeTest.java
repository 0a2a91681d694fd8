/** 'Terms', 2 TREE: each sentence that names an edge. */
public final class EdgeTreeTest {
    public static void main(String[] args) {
        edgesOfTheTree();
        holderAtFirst();
        isntIn();
        queueIsEmptyOrNot();
        hasAskedOrNot();
        fullestQueues();
        itselfOrAnother();
        Run.end();
    }

    private static void edgesOfTheTree() {
        int[] next = {0, 0, 0, 1};
        for (int node = 1; node < 4; node++) {
            Run run = new Run("the edges are 0 - 1, 0 - 2, 1 - 3: a REQUEST of " + node, 7, 30);
            run.calls("want 2 " + node + " = done; count 1 = 1; first " + node + " " + next[node] + " = 200");
        }
    }

    private static void holderAtFirst() {
        Run.of("at first the next one on the way to 0, for 0 itself", """
            more 2 0 = 0; more 2 1 = 0; more 2 2 = 0; more 2 3 = 1
            want 2 0 = done; about 2 0 = 2; count 1 = 0; more 2 0 = 0
            """);
    }

    private static void isntIn() {
        Run.of("it isn't in: it is, and a REQUEST must wait for LEAVE", """
            want 2 0 = done; want 2 2 = done; deliver 2 0 = 2; waiting 0 2 = 0; more 2 0 = 0; about 2 0 = 2
            leave 2 0 = done; first 0 2 = 210; more 2 0 = 2
            """);
        Run.of("it isn't in: 1 is, and 0 and 3 must wait", """
            want 2 1 = done; deliver 1 0 = 2; deliver 0 1 = 2; about 2 1 = 2; want 2 0 = done; want 2 3 = done
            deliver 0 1 = 2; waiting 1 0 = 0; deliver 3 1 = 2; waiting 1 3 = 0; more 2 1 = 1; count 1 = 4
            leave 2 1 = done; first 1 0 = 211; more 2 1 = 0
            """);
        Run.of("it isn't in: 2 is, and 0 must wait", """
            want 2 2 = done; deliver 2 0 = 2; deliver 0 2 = 2; about 2 2 = 2; want 2 0 = done; deliver 0 2 = 2
            waiting 2 0 = 0; more 2 2 = 2; leave 2 2 = done; first 2 0 = 210; waiting 2 0 = 1; more 2 2 = 0
            """);
        Run.of("it isn't in: 3 is, and 1 must wait", """
            want 2 3 = done; deliver 3 1 = 2; deliver 1 0 = 2; deliver 0 1 = 2; deliver 1 3 = 2; about 2 3 = 2
            want 2 1 = done; deliver 1 3 = 2; waiting 3 1 = 0; more 2 3 = 3; leave 2 3 = done; first 3 1 = 210
            """);
        Run.of("it isn't in: 0 is in no more, while another one is", """
            want 2 0 = done; leave 2 0 = done; want 2 1 = done; deliver 1 0 = 2; deliver 0 1 = 2; about 2 1 = 2
            leave 2 1 = done; want 2 3 = done; deliver 3 1 = 2; first 1 3 = 210; more 2 1 = 3
            """);
        Run.of("it isn't in: it never was", "want 2 2 = done; deliver 2 0 = 2; first 0 2 = 210; more 2 0 = 2");
        Run.of("it isn't in: it was, and is idle", """
            want 2 0 = done; leave 2 0 = done; want 2 2 = done; deliver 2 0 = 2; first 0 2 = 210; more 2 0 = 2
            """);
        Run.of("it isn't in: in another lock is not in this one", """
            want 1 0 = done; about 1 0 = 2; want 2 2 = done; deliver 2 0 = 2; first 0 2 = 210
            """);
    }

    private static void queueIsEmptyOrNot() {
        Run.of("its queue isn't empty: LEAVE with an empty one sends nothing", """
            want 2 0 = done; leave 2 0 = done; count 1 = 0; more 2 0 = 0; about 2 0 = 0
            want 2 3 = done; deliver 3 1 = 2; deliver 1 0 = 2; deliver 0 1 = 2; deliver 1 3 = 2; about 2 3 = 2
            leave 2 3 = done; count 1 = 4; more 2 3 = 3; want 2 3 = done; about 2 3 = 2; count 1 = 4
            """);
        Run.of("its queue isn't empty: LEAVE with one in it sends the PRIVILEGE alone", """
            want 2 0 = done; want 2 1 = done; deliver 1 0 = 2; leave 2 0 = done
            first 0 1 = 210; waiting 0 1 = 1; count 1 = 2
            """);
        Run.of("its queue isn't empty: LEAVE with two in it asks for the other one as well", """
            want 2 0 = done; want 2 1 = done; want 2 2 = done; deliver 1 0 = 2; deliver 2 0 = 2; leave 2 0 = done
            first 0 1 = 211; waiting 0 1 = 2; waiting 0 2 = 0; count 1 = 4
            deliver 0 1 = 2; about 2 1 = 2; first 0 1 = 200
            """);
        Run.of("its queue isn't empty: PRIVILEGE with one in it goes on alone", """
            want 2 3 = done; deliver 3 1 = 2; deliver 1 0 = 2; deliver 0 1 = 2
            first 1 3 = 210; waiting 1 3 = 1; more 2 1 = 3; count 1 = 4
            """);
        Run.of("its queue isn't empty: PRIVILEGE with two in it", """
            want 2 3 = done; deliver 3 1 = 2; want 2 1 = done; deliver 1 0 = 2; deliver 0 1 = 2
            first 1 3 = 211; waiting 1 3 = 2; more 2 1 = 3; about 2 1 = 1; count 1 = 5
            """);
        Run.of("its queue isn't empty: in, and the other one waits in it", """
            want 2 1 = done; want 2 3 = done; deliver 3 1 = 2; deliver 1 0 = 2; deliver 0 1 = 2
            about 2 1 = 2; more 2 1 = 1; waiting 1 3 = 0; waiting 1 0 = 0; count 1 = 3
            leave 2 1 = done; first 1 3 = 210; waiting 1 3 = 1; count 1 = 4
            """);
    }

    private static void hasAskedOrNot() {
        Run.of("it hasn't asked: it has, by its own want", """
            want 2 1 = done; waiting 1 0 = 1; want 2 3 = done; deliver 3 1 = 2; waiting 1 0 = 1; count 1 = 2
            """);
        Run.of("it hasn't asked: it has, for another", """
            want 2 3 = done; deliver 3 1 = 2; waiting 1 0 = 1; want 2 1 = done; waiting 1 0 = 1; count 1 = 2
            """);
        Run.of("it hasn't asked: again when the PRIVILEGE has gone", """
            want 2 1 = done; deliver 1 0 = 2; deliver 0 1 = 2; about 2 1 = 2; leave 2 1 = done
            want 2 0 = done; first 0 1 = 200; deliver 0 1 = 2; first 1 0 = 210; more 2 1 = 0
            want 2 1 = done; first 1 0 = 211; waiting 1 0 = 2; count 1 = 5
            deliver 1 0 = 2; about 2 0 = 2; deliver 1 0 = 2; waiting 0 1 = 0
            leave 2 0 = done; first 0 1 = 210; deliver 0 1 = 2; about 2 1 = 2
            """);
        Run.of("it hasn't asked: when it came in it hasn't", """
            want 2 1 = done; deliver 1 0 = 2; deliver 0 1 = 2; leave 2 1 = done; want 2 3 = done; deliver 3 1 = 2
            first 1 3 = 210; deliver 1 3 = 2; about 2 3 = 2; want 2 1 = done; first 1 3 = 200; waiting 1 3 = 1
            # once only
            want 2 0 = done; deliver 0 1 = 2; waiting 1 3 = 1
            """);
    }

    private static void fullestQueues() {
        Run.of("the queue of 0 holds itself and both neighbours", """
            want 2 2 = done; deliver 2 0 = 2; deliver 0 2 = 2; about 2 2 = 2
            # 0 has not the privilege: 1, itself and 2 come to its queue
            want 2 1 = done; deliver 1 0 = 2; first 0 2 = 200; want 2 0 = done; waiting 0 2 = 1
            deliver 0 2 = 2; leave 2 2 = done; first 2 0 = 210; want 2 2 = done; waiting 2 0 = 2
            deliver 2 0 = 2; first 0 1 = 211; more 2 0 = 1; waiting 0 1 = 2
            deliver 2 0 = 2; waiting 0 1 = 2
            deliver 0 1 = 2; about 2 1 = 2; deliver 0 1 = 2; leave 2 1 = done; deliver 1 0 = 2
            about 2 0 = 2; leave 2 0 = done; first 0 2 = 210; deliver 0 2 = 2; about 2 2 = 2; count 0 = 4
            """);
        Run.of("the queue of 1 holds itself and both neighbours, in the order in which they came", """
            want 2 1 = done; deliver 1 0 = 2; deliver 0 1 = 2; about 2 1 = 2
            want 2 0 = done; want 2 3 = done; deliver 3 1 = 2; deliver 0 1 = 2
            leave 2 1 = done; first 1 3 = 211; waiting 1 3 = 2; waiting 1 0 = 0; want 2 1 = done; waiting 1 3 = 2
            deliver 1 3 = 2; deliver 1 3 = 2; leave 2 3 = done; want 2 3 = done; waiting 3 1 = 2
            # 0, then 1, then 3
            deliver 3 1 = 2; first 1 0 = 211; waiting 1 0 = 2; deliver 3 1 = 2; waiting 1 0 = 2
            deliver 1 0 = 2; about 2 0 = 2; deliver 1 0 = 2; leave 2 0 = done; deliver 0 1 = 2
            about 2 1 = 2; more 2 1 = 1; leave 2 1 = done; first 1 3 = 210; deliver 1 3 = 2; about 2 3 = 2
            leave 2 3 = done; count 0 = 5; count 1 = 12
            """);
    }

    private static void itselfOrAnother() {
        Run.of("if that is itself, it is in: no message", """
            want 2 0 = done; about 2 0 = 2; more 2 0 = 0; count 1 = 0; count 0 = 1
            """);
        Run.of("else that is its holder, and the PRIVILEGE is sent there: it is not in", """
            want 2 1 = done; deliver 1 0 = 2; more 2 0 = 1; about 2 0 = 0; first 0 1 = 210; count 0 = 0
            # the privilege is on its way, and 1 does not hold it yet
            more 2 1 = 0; about 2 1 = 1; deliver 0 1 = 2; more 2 1 = 1; about 2 1 = 2; count 0 = 1
            """);
    }
}
