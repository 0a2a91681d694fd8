/** Promise 2: want. */
public final class Promise02WantTest {
    public static void main(String[] args) {
        stamps();
        token();
        tree();
        locksAreApart();
        wrongInputs();
        Run.end();
    }

    private static void stamps() {
        Run.of("stamps, one wants", """
            want 0 2 = done
            about 0 2 = 1; more 0 2 = 1
            first 2 0 = 0; first 2 1 = 0; first 2 3 = 0; count 1 = 3; count 0 = 0
            about 0 0 = 0; more 0 0 = 0
            want 0 2 = throws.IllegalStateException
            """);
        Run.of("stamps, the stamp is above all that came", """
            want 0 0 = done; deliver 0 1 = 0; more 0 1 = 1
            want 0 1 = done; more 0 1 = 2
            # 0 is waiting with the lesser stamp, so it puts 1 off; 2 and 3 answer
            deliver 1 0 = 0; deliver 1 0 = 0; more 0 0 = 2; waiting 0 1 = 0
            deliver 0 2 = 0; deliver 2 0 = 0; about 0 0 = 1
            deliver 0 3 = 0; deliver 3 0 = 0; about 0 0 = 2
            want 0 0 = throws.IllegalStateException
            leave 0 0 = done; want 0 0 = done; more 0 0 = 3; about 0 0 = 1
            """);
        Run.of("stamps, replies of an earlier wait count no more", """
            want 0 0 = done
            deliver 0 1 = 0; deliver 1 0 = 0; deliver 0 2 = 0; deliver 2 0 = 0; deliver 0 3 = 0; deliver 3 0 = 0
            about 0 0 = 2; leave 0 0 = done; want 0 0 = done
            deliver 0 1 = 0; deliver 1 0 = 0; about 0 0 = 1
            deliver 0 2 = 0; deliver 2 0 = 0; about 0 0 = 1
            deliver 0 3 = 0; deliver 3 0 = 0; about 0 0 = 2; count 0 = 2
            """);
    }

    private static void token() {
        Run.of("token, its keeper wants", """
            want 1 0 = done; about 1 0 = 2; more 1 0 = 0; count 0 = 1; count 1 = 0
            want 1 0 = throws.IllegalStateException
            leave 1 0 = done; want 1 0 = done; about 1 0 = 2; count 0 = 2; count 1 = 0
            """);
        Run.of("token, another wants", """
            want 1 2 = done; about 1 2 = 1; more 1 2 = 1; count 0 = 0; count 1 = 3
            first 2 0 = 100; first 2 1 = 100; first 2 3 = 100
            want 1 2 = throws.IllegalStateException
            """);
        Run.of("token, on its way nobody has it", """
            want 1 2 = done; deliver 2 0 = 1; first 0 2 = 110
            want 1 0 = done; about 1 0 = 1; more 1 0 = 1
            deliver 0 2 = 1; first 0 2 = 100; about 1 2 = 2
            """);
    }

    private static void tree() {
        Run.of("tree, the holder wants", """
            want 2 0 = done; about 2 0 = 2; count 0 = 1; count 1 = 0
            want 2 0 = throws.IllegalStateException
            """);
        Run.of("tree, another wants", """
            want 2 3 = done; about 2 3 = 1; first 3 1 = 200; count 1 = 1
            want 2 3 = throws.IllegalStateException
            want 2 2 = done; about 2 2 = 1; first 2 0 = 200; count 1 = 2; count 0 = 0
            """);
        Run.of("tree, who has asked does not ask again", """
            want 2 3 = done; deliver 3 1 = 2; waiting 1 0 = 1
            want 2 1 = done; about 2 1 = 1; waiting 1 0 = 1; count 1 = 2
            """);
    }

    private static void locksAreApart() {
        Run.of("a node's state is for each lock", """
            want 0 1 = done; want 1 1 = done; want 2 1 = done
            about 0 1 = 1; about 1 1 = 1; about 2 1 = 1
            first 1 0 = 1; waiting 1 0 = 3; first 1 2 = 1; waiting 1 2 = 2; waiting 1 3 = 2; count 1 = 7
            """);
    }

    private static void wrongInputs() {
        Run.of("want, wrong inputs", """
            want -1 0 = throws.IllegalArgumentException
            want 3 0 = throws.IllegalArgumentException
            want 4 0 = throws.IllegalArgumentException
            want 0 -1 = throws.IllegalArgumentException
            want 0 4 = throws.IllegalArgumentException
            want 2 4 = throws.IllegalArgumentException
            want -2147483648 2147483647 = throws.IllegalArgumentException
            want 2147483647 -2147483648 = throws.IllegalArgumentException
            want 0 3 = done; want 3 3 = throws.IllegalArgumentException; want 0 7 = throws.IllegalArgumentException
            """);
    }
}
