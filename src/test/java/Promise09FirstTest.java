/** Promise 9: first. */
public final class Promise09FirstTest {
    public static void main(String[] args) {
        Run.of("first, stamps", """
            first 0 1 = -1; want 0 0 = done; first 0 1 = 0; want 1 0 = done; first 0 1 = 0
            deliver 0 1 = 0; first 0 1 = -1; first 1 0 = 10; want 0 1 = done; first 1 0 = 11
            deliver 1 0 = 0; first 1 0 = 0
            """);
        Run.of("first, token", """
            want 1 1 = done; first 1 0 = 100; start 1 = done; first 1 2 = 101; first 1 3 = 100
            deliver 1 0 = 1; first 0 1 = 110; start 0 = done; first 0 1 = 111; deliver 0 1 = 1; first 0 1 = 300
            """);
        Run.of("first, tree", """
            want 2 1 = done; first 1 0 = 200; want 0 1 = done; first 1 0 = 201
            deliver 1 0 = 2; first 0 1 = 210; first 1 0 = 0; deliver 1 0 = 0; first 0 1 = 211
            """);
        Run.of("first, election", """
            start 3 = done; first 3 0 = 300; want 0 3 = done; first 3 0 = 301; first 0 3 = -1
            deliver 3 0 = 3; deliver 0 1 = 3; deliver 1 2 = 3; deliver 2 3 = 3; deliver 3 0 = 0; first 3 0 = 310
            start 3 = done; first 3 0 = 311; deliver 3 0 = 3; first 3 0 = 300
            """);
        Run.of("first, work", """
            begin 2 = done; spread 2 3 = done; first 2 3 = 400; spread 2 3 = done; first 2 3 = 401
            spread 2 3 = done; first 2 3 = 401; first 3 2 = -1
            deliver 2 3 = 4; first 2 3 = 401; first 3 2 = -1; deliver 2 3 = 4; first 2 3 = 400; first 3 2 = 410
            deliver 2 3 = 4; first 2 3 = -1; first 3 2 = 411
            # to look at a message does not take it
            first 3 2 = 411; waiting 3 2 = 2
            """);
        Run.of("first, wrong inputs", """
            first 0 0 = throws.IllegalArgumentException
            first 2 2 = throws.IllegalArgumentException
            first -1 0 = throws.IllegalArgumentException
            first 0 -1 = throws.IllegalArgumentException
            first 4 0 = throws.IllegalArgumentException
            first 0 4 = throws.IllegalArgumentException
            first 1 5 = throws.IllegalArgumentException
            first -2147483648 2147483647 = throws.IllegalArgumentException
            """);
        Run.end();
    }
}
