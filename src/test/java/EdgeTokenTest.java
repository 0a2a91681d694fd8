/** 'Terms', 1 TOKEN FOR ALL: each sentence that names an edge. */
public final class EdgeTokenTest {
    public static void main(String[] args) {
        whoHasTheToken();
        idleWithTheToken();
        oneMoreThanDoneForRequest();
        oneMoreThanDoneForLeave();
        notInTheRow();
        rowIsEmptyOrNot();
        leastFirst();
        Run.end();
    }

    private static void whoHasTheToken() {
        Run.of("at first node 0 has it", "want 1 0 = done; about 1 0 = 2; more 1 0 = 0; count 1 = 0; count 0 = 1");
        for (int node = 1; node < 4; node++) {
            Run run = new Run("at first node " + node + " has it not", 7, 30);
            run.calls("want 1 " + node + " = done; about 1 " + node + " = 1; more 1 " + node + " = 1; count 1 = 3");
            for (int to = 0; to < 4; to++) {
                run.calls(to == node ? "count 0 = 0" : "first " + node + " " + to + " = 100");
            }
            run.calls("deliver " + node + " 0 = 1; first 0 " + node + " = 110; about 1 " + node + " = 1");
            // 0 has it no more, and the one it is sent to not yet
            run.calls("want 1 0 = done; about 1 0 = 1; more 1 0 = 1; count 1 = 7");
            run.calls("deliver 0 " + node + " = 1; about 1 " + node + " = 2; leave 1 " + node + " = done");
            run.calls("count 1 = 7; want 1 " + node + " = done; about 1 " + node + " = 2; more 1 " + node + " = 1; count 1 = 7");
        }
    }

    private static void idleWithTheToken() {
        Run.of("if it has the token and is idle: has it, is in", """
            want 1 0 = done; want 1 2 = done; deliver 2 0 = 1; waiting 0 2 = 0; leave 1 0 = done; first 0 2 = 110
            """);
        Run.of("if it has the token and is idle: has it, was in and is idle", """
            want 1 0 = done; leave 1 0 = done; want 1 2 = done; deliver 2 0 = 1; first 0 2 = 110
            """);
        Run.of("if it has the token and is idle: idle, has it not", """
            want 1 2 = done; deliver 2 1 = 1; deliver 2 3 = 1; waiting 1 2 = 0; waiting 3 2 = 0; count 1 = 3
            """);
        Run.of("if it has the token and is idle: idle, has it no more", """
            want 1 1 = done; deliver 1 0 = 1; want 1 2 = done; deliver 2 0 = 1; waiting 0 1 = 1; waiting 0 2 = 0; count 1 = 7
            """);
        Run.of("if it has the token and is idle: waits, has it not", """
            want 1 1 = done; want 1 2 = done; deliver 2 1 = 1; deliver 1 2 = 1; waiting 1 2 = 0; waiting 2 1 = 0; count 1 = 6
            # but both know of it: who comes in first hands the token on
            deliver 1 0 = 1; deliver 0 1 = 1; about 1 1 = 2; leave 1 1 = done; first 1 2 = 110
            """);
    }

    /** Node 1 has been in twice, and 3 has the token and heard nothing of that; 1's two old REQUESTs wait before 3. */
    private static Run oldRequests(String name) {
        return new Run(name, 7, 30).calls("""
            want 1 1 = done; deliver 1 0 = 1; deliver 0 1 = 1; leave 1 1 = done
            want 1 2 = done; deliver 2 1 = 1; deliver 1 2 = 1; deliver 1 2 = 1; leave 1 2 = done
            want 1 1 = done; deliver 1 2 = 1; deliver 2 1 = 1; leave 1 1 = done
            want 1 0 = done; deliver 0 1 = 1; deliver 1 0 = 1; deliver 1 0 = 1; leave 1 0 = done
            want 1 3 = done; deliver 3 0 = 1; deliver 0 3 = 1; deliver 0 3 = 1; about 1 3 = 2
            waiting 1 3 = 2; waiting 3 1 = 1; waiting 3 2 = 1; waiting 2 3 = 1; waiting 3 0 = 0; more 1 1 = 2
            """);
    }

    private static void oneMoreThanDoneForRequest() {
        Run run = oldRequests("REQUEST: its count for j is 1 more than DONE for j");
        run.calls("leave 1 3 = done");
        // 1, where DONE is 2; then 2; then 3
        run.calls("deliver 1 3 = 1; waiting 3 1 = 1; deliver 1 3 = 1; waiting 3 1 = 1; about 1 1 = 0");
        run.calls("want 1 1 = done; more 1 1 = 3; deliver 1 3 = 1; waiting 3 1 = 2");
        run.calls("deliver 3 1 = 1; first 3 1 = 110; deliver 3 1 = 1; about 1 1 = 2");
        oldRequests("REQUEST: only what the keeper itself has heard of counts").calls("""
            leave 1 3 = done; want 1 1 = done; more 1 1 = 3; deliver 1 0 = 1; deliver 1 2 = 1; waiting 1 3 = 3
            deliver 1 3 = 1; waiting 3 1 = 1; deliver 1 3 = 1; waiting 3 1 = 1; deliver 1 3 = 1; waiting 3 1 = 2
            """);
        Run.of("REQUEST: 1 where DONE is 0", "want 1 3 = done; deliver 3 0 = 1; first 0 3 = 110");
    }

    private static void oneMoreThanDoneForLeave() {
        oldRequests("LEAVE: its count is 2 less than DONE").calls("""
            leave 1 3 = done; waiting 3 1 = 1; waiting 3 2 = 1; waiting 3 0 = 0; want 1 3 = done; about 1 3 = 2
            """);
        oldRequests("LEAVE: its count is 1 less than DONE").calls("""
            deliver 1 3 = 1; leave 1 3 = done; waiting 3 1 = 1; waiting 3 2 = 1; waiting 3 0 = 0
            want 1 3 = done; about 1 3 = 2
            """);
        oldRequests("LEAVE: its count is DONE").calls("""
            deliver 1 3 = 1; deliver 1 3 = 1; leave 1 3 = done; waiting 3 1 = 1; waiting 3 2 = 1; waiting 3 0 = 0
            want 1 3 = done; about 1 3 = 2
            """);
        oldRequests("LEAVE: its count is 1 more than DONE").calls("""
            deliver 1 3 = 1; deliver 1 3 = 1; want 1 1 = done; deliver 1 3 = 1; waiting 3 1 = 1
            leave 1 3 = done; waiting 3 1 = 2; waiting 3 2 = 1; waiting 3 0 = 0; want 1 3 = done; about 1 3 = 1
            """);
        Run.of("DONE for it becomes its count for itself: it is not served for what is done", """
            want 1 3 = done; deliver 3 0 = 1; deliver 0 3 = 1; about 1 3 = 2; leave 1 3 = done; count 1 = 4
            waiting 3 0 = 0; want 1 3 = done; leave 1 3 = done; about 1 3 = 0; count 1 = 4
            """);
    }

    private static void notInTheRow() {
        Run.of("each node that isn't in the row: no node comes in twice", """
            want 1 0 = done; want 1 1 = done; want 1 2 = done; want 1 3 = done
            deliver 1 0 = 1; deliver 2 0 = 1; deliver 3 0 = 1
            # each of them hears of those that stand in the row
            deliver 2 1 = 1; deliver 3 1 = 1; deliver 1 2 = 1; deliver 3 2 = 1; deliver 1 3 = 1; deliver 2 3 = 1; count 1 = 9
            leave 1 0 = done; first 0 1 = 110; deliver 0 1 = 1; leave 1 1 = done; first 1 2 = 110; deliver 1 2 = 1
            leave 1 2 = done; first 2 3 = 110; deliver 2 3 = 1; about 1 3 = 2; count 1 = 12
            leave 1 3 = done; count 1 = 12; want 1 3 = done; about 1 3 = 2; count 0 = 5
            """);
        Run.of("each node that isn't in the row: one that was taken out of it comes in anew", """
            want 1 0 = done; want 1 1 = done; deliver 1 0 = 1; leave 1 0 = done; deliver 0 1 = 1; leave 1 1 = done
            want 1 0 = done; deliver 0 1 = 1; deliver 1 0 = 1; about 1 0 = 2
            want 1 1 = done; deliver 1 0 = 1; leave 1 0 = done; first 0 1 = 110; deliver 0 1 = 1; about 1 1 = 2
            """);
    }

    private static void rowIsEmptyOrNot() {
        Run.of("if the row isn't empty: it is, and the token stays", """
            want 1 0 = done; leave 1 0 = done; count 1 = 0; want 1 0 = done; about 1 0 = 2; more 1 0 = 0
            """);
        Run.of("if the row isn't empty: one node, and it is empty then", """
            want 1 0 = done; want 1 3 = done; deliver 3 0 = 1; leave 1 0 = done; first 0 3 = 110; count 1 = 4
            deliver 0 3 = 1; leave 1 3 = done; count 1 = 4; waiting 3 0 = 0; want 1 3 = done; about 1 3 = 2
            """);
        Run.of("if the row isn't empty: two nodes, the first is taken out, the other stays", """
            want 1 0 = done; want 1 3 = done; want 1 2 = done; deliver 3 0 = 1; deliver 2 0 = 1
            leave 1 0 = done; first 0 2 = 110; waiting 0 3 = 0; count 1 = 7
            deliver 0 2 = 1; leave 1 2 = done; waiting 2 3 = 2; count 1 = 8
            # REQUEST of 2, then the token
            deliver 2 3 = 1; first 2 3 = 110; deliver 2 3 = 1; about 1 3 = 2; leave 1 3 = done; count 1 = 8
            """);
    }

    private static void leastFirst() {
        Run.of("each node, the least first: not as they asked", """
            want 1 0 = done; want 1 3 = done; want 1 2 = done; want 1 1 = done
            deliver 3 0 = 1; deliver 2 0 = 1; deliver 1 0 = 1
            leave 1 0 = done; waiting 0 1 = 1; waiting 0 2 = 0; waiting 0 3 = 0; deliver 0 1 = 1; about 1 1 = 2
            leave 1 1 = done; waiting 1 2 = 2; waiting 1 3 = 1; deliver 1 2 = 1; deliver 1 2 = 1; about 1 2 = 2
            leave 1 2 = done; waiting 2 3 = 2; waiting 2 1 = 1; waiting 2 0 = 0
            """);
        Run.of("comes to the row's end: behind those of a greater number that stand in it", """
            want 1 0 = done; want 1 2 = done; want 1 3 = done; deliver 2 0 = 1; deliver 3 0 = 1; leave 1 0 = done
            want 1 0 = done; deliver 0 2 = 1; deliver 0 2 = 1; want 1 1 = done; deliver 1 2 = 1; about 1 2 = 2
            # the row is 3, and becomes 3, 0, 1
            leave 1 2 = done; waiting 2 0 = 0; waiting 2 1 = 1; waiting 2 3 = 2; deliver 2 3 = 1; deliver 2 3 = 1
            about 1 3 = 2; leave 1 3 = done; first 3 0 = 110; waiting 3 1 = 1; deliver 3 0 = 1; about 1 0 = 2
            leave 1 0 = done; waiting 0 1 = 2; waiting 0 2 = 0; deliver 0 1 = 1; deliver 0 1 = 1; about 1 1 = 2
            leave 1 1 = done; want 1 1 = done; about 1 1 = 2; count 0 = 6
            """);
    }
}
