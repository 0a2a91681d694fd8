/** Promise 11: about. */
public final class Promise11AboutTest {
    public static void main(String[] args) {
        Run.of("about, locks", """
            about 0 3 = 0; want 0 3 = done; about 0 3 = 1; about 1 3 = 0; about 2 3 = 0; about 0 0 = 0
            deliver 3 0 = 0; deliver 3 1 = 0; deliver 3 2 = 0; deliver 0 3 = 0; deliver 1 3 = 0; deliver 2 3 = 0
            about 0 3 = 2; leave 0 3 = done; about 0 3 = 0
            want 1 0 = done; about 1 0 = 2; want 1 1 = done; about 1 1 = 1; leave 1 0 = done; about 1 0 = 0
            want 2 0 = done; about 2 0 = 2; want 2 1 = done; about 2 1 = 1; leave 2 0 = done; about 2 0 = 0
            """);
        new Run("about, the leader is an ID", 5, 0).calls("""
            about 3 0 = -1; start 3 = done; about 3 3 = -1
            deliver 3 0 = 3; deliver 0 1 = 3; deliver 1 2 = 3; deliver 2 3 = 3; about 3 3 = 3; about 3 0 = -1
            deliver 3 0 = 3; about 3 0 = 3; about 3 1 = -1
            """);
        Run.of("about, work", """
            begin 0 = done; about 4 0 = 3; spread 0 1 = done; about 4 0 = 7; spread 0 1 = done; about 4 0 = 11
            rest 0 = done; about 4 0 = 10; about 4 1 = 0
            deliver 0 1 = 4; about 4 1 = 3; spread 1 3 = done; about 4 1 = 7; rest 1 = done; about 4 1 = 6
            deliver 0 1 = 4; deliver 1 0 = 4; about 4 0 = 6; about 4 1 = 7
            """);
        Run.of("about, wrong inputs", """
            about -1 0 = throws.IllegalArgumentException
            about 5 0 = throws.IllegalArgumentException
            about 0 -1 = throws.IllegalArgumentException
            about 0 4 = throws.IllegalArgumentException
            about 4 4 = throws.IllegalArgumentException
            about 5 4 = throws.IllegalArgumentException
            about 2147483647 -2147483648 = throws.IllegalArgumentException
            about -2147483648 2147483647 = throws.IllegalArgumentException
            """);
        Run.end();
    }
}
