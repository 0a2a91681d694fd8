/** Promise 12: more. */
public final class Promise12MoreTest {
    public static void main(String[] args) {
        Run.of("more, the clock", """
            want 0 1 = done; more 0 1 = 1; deliver 1 2 = 0; more 0 2 = 1; more 0 3 = 0
            want 0 2 = done; more 0 2 = 2; deliver 2 3 = 0; more 0 3 = 2; deliver 2 1 = 0; more 0 1 = 1
            deliver 2 1 = 0; more 0 1 = 2
            """);
        Run.of("more, the count for itself", """
            want 1 0 = done; more 1 0 = 0; want 1 1 = done; more 1 1 = 1; deliver 1 0 = 1; more 1 0 = 0
            leave 1 0 = done; want 1 0 = done; more 1 0 = 1
            deliver 0 1 = 1; deliver 0 1 = 1; leave 1 1 = done; want 1 1 = done; more 1 1 = 2; more 1 0 = 1
            """);
        Run.of("more, the holder", """
            want 2 1 = done; more 2 1 = 0; deliver 1 0 = 2; more 2 0 = 1; more 2 1 = 0
            deliver 0 1 = 2; more 2 1 = 1; more 2 0 = 1; more 2 2 = 0; more 2 3 = 1
            """);
        Run.of("more, the ID, and if it takes part", """
            more 3 0 = 7; start 0 = done; more 3 0 = 1007; deliver 0 1 = 3; more 3 1 = 1037; more 3 2 = 67
            """);
        new Run("more, an ID of 0", 0, 1).calls("more 3 0 = 0; start 0 = done; more 3 0 = 1000");
        Run.of("more, the parent", """
            begin 3 = done; more 4 3 = -1; spread 3 0 = done; more 4 0 = -1; deliver 3 0 = 4; more 4 0 = 3
            spread 0 2 = done; deliver 0 2 = 4; more 4 2 = 0; rest 2 = done; more 4 2 = -1
            rest 0 = done; more 4 0 = 3; deliver 2 0 = 4; more 4 0 = -1
            """);
        Run.of("more, wrong inputs", """
            more -1 0 = throws.IllegalArgumentException
            more 5 0 = throws.IllegalArgumentException
            more 0 -1 = throws.IllegalArgumentException
            more 0 4 = throws.IllegalArgumentException
            more 4 4 = throws.IllegalArgumentException
            more 5 4 = throws.IllegalArgumentException
            more 2147483647 -2147483648 = throws.IllegalArgumentException
            more -2147483648 2147483647 = throws.IllegalArgumentException
            """);
        Run.end();
    }
}
