/** Promise 13: count. */
public final class Promise13CountTest {
    public static void main(String[] args) {
        Run.of("count, how often a node came in, of all locks", """
            count 0 = 0; want 1 0 = done; count 0 = 1; want 2 0 = done; count 0 = 2; want 0 0 = done; count 0 = 2
            deliver 0 1 = 0; deliver 1 0 = 0; deliver 0 2 = 0; deliver 2 0 = 0; deliver 0 3 = 0; deliver 3 0 = 0
            count 0 = 3; leave 0 0 = done; leave 1 0 = done; leave 2 0 = done; count 0 = 3
            want 1 3 = done; deliver 3 0 = 1; deliver 0 3 = 1; count 0 = 4
            want 2 1 = done; deliver 1 0 = 2; deliver 0 1 = 2; count 0 = 5
            """);
        Run.of("count, how many were sent, delivered or not", """
            count 1 = 0; want 0 1 = done; count 1 = 3; deliver 1 0 = 0; count 1 = 4; deliver 0 1 = 0; count 1 = 4
            want 1 0 = done; count 1 = 4; want 1 2 = done; count 1 = 7; leave 1 0 = done; count 1 = 7
            deliver 2 0 = 1; count 1 = 8; deliver 0 2 = 1; count 1 = 8
            want 2 3 = done; count 1 = 9; deliver 3 1 = 2; count 1 = 10
            start 2 = done; count 1 = 11; begin 0 = done; count 1 = 11; spread 0 3 = done; count 1 = 12
            deliver 0 3 = 4; count 1 = 12; rest 3 = done; count 1 = 13; rest 0 = done; count 1 = 13
            """);
        Run.of("count, the ends of work and the root", """
            count 2 = 0; count 3 = -1; begin 0 = done; count 2 = 0; count 3 = 0; rest 0 = done; count 2 = 1; count 3 = -1
            begin 3 = done; count 3 = 3; spread 3 1 = done; deliver 3 1 = 4; rest 3 = done; rest 1 = done
            count 2 = 1; count 3 = 3; deliver 1 3 = 4; count 2 = 2; count 3 = -1
            """);
        Run.of("count, any other number", """
            want 0 0 = done; want 1 0 = done; begin 2 = done; rest 2 = done
            count 4 = -1; count -1 = -1; count 5 = -1; count 100 = -1
            count 2147483647 = -1; count -2147483648 = -1
            """);
        Run.end();
    }
}
