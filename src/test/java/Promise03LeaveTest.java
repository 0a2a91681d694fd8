/** Promise 3: leave. */
public final class Promise03LeaveTest {
    public static void main(String[] args) {
        stamps();
        token();
        tree();
        wrongInputs();
        Run.end();
    }

    private static void stamps() {
        Run.of("stamps, all that are put off get a reply, once", """
            want 0 0 = done
            deliver 0 1 = 0; deliver 1 0 = 0; deliver 0 2 = 0; deliver 2 0 = 0; deliver 0 3 = 0; deliver 3 0 = 0
            about 0 0 = 2
            want 0 3 = done; want 0 1 = done; deliver 3 0 = 0; deliver 1 0 = 0; count 1 = 12
            waiting 0 1 = 0; waiting 0 2 = 0; waiting 0 3 = 0
            leave 0 0 = done; about 0 0 = 0
            first 0 1 = 10; waiting 0 2 = 0; first 0 3 = 10; count 1 = 14
            leave 0 0 = throws.IllegalStateException
            # none is put off any more: the next leave sends nothing to 3
            deliver 0 1 = 0; deliver 0 3 = 0
            want 0 0 = done
            deliver 1 2 = 0; deliver 2 1 = 0; deliver 1 3 = 0; deliver 3 1 = 0; about 0 1 = 1
            deliver 3 1 = 0; about 0 1 = 2; waiting 1 3 = 0
            """);
        Run.of("stamps, a second leave sends to nobody that was put off before", """
            want 0 0 = done; want 0 1 = done
            deliver 0 1 = 0; deliver 1 0 = 0; deliver 1 0 = 0
            deliver 0 2 = 0; deliver 2 0 = 0; deliver 0 3 = 0; deliver 3 0 = 0; about 0 0 = 2
            leave 0 0 = done; waiting 0 1 = 1; count 1 = 10
            deliver 0 1 = 0; deliver 1 2 = 0; deliver 2 1 = 0; deliver 1 3 = 0; deliver 3 1 = 0; about 0 1 = 2
            leave 0 1 = done
            want 0 0 = done
            deliver 0 1 = 0; deliver 1 0 = 0; deliver 0 2 = 0; deliver 2 0 = 0; deliver 0 3 = 0; deliver 3 0 = 0
            about 0 0 = 2; count 1 = 18
            leave 0 0 = done; count 1 = 18; waiting 0 1 = 0
            """);
    }

    private static void token() {
        Run.of("token, nobody wants it", """
            want 1 0 = done; leave 1 0 = done; about 1 0 = 0; count 1 = 0
            leave 1 0 = throws.IllegalStateException
            # it has the token still
            want 1 0 = done; about 1 0 = 2
            """);
        Run.of("token, the row goes along with it, the least first, newcomers behind", """
            want 1 0 = done; want 1 3 = done; want 1 1 = done; deliver 3 0 = 1; deliver 1 0 = 1
            waiting 0 1 = 0; waiting 0 3 = 0
            leave 1 0 = done; first 0 1 = 110; waiting 0 3 = 0; about 1 0 = 0
            want 1 0 = done; first 0 1 = 111; deliver 0 1 = 1; deliver 0 1 = 1; about 1 1 = 2
            # 1 has not heard of 3, which stands in the row; 0 comes behind it
            leave 1 1 = done; waiting 1 0 = 0; first 1 3 = 101; waiting 1 3 = 2
            deliver 1 3 = 1; deliver 1 3 = 1; about 1 3 = 2
            # nobody told 3 of 0
            leave 1 3 = done; first 3 0 = 110; deliver 3 0 = 1; about 1 0 = 2
            leave 1 0 = done; waiting 0 1 = 0; waiting 0 2 = 1; waiting 0 3 = 1; first 0 2 = 100; first 0 3 = 100
            count 0 = 4
            """);
        Run.of("token, one who stands in the row does not come in twice", """
            want 1 0 = done; want 1 1 = done; want 1 2 = done; deliver 1 0 = 1; deliver 2 0 = 1; deliver 2 1 = 1
            leave 1 0 = done; deliver 0 1 = 1; about 1 1 = 2
            leave 1 1 = done; deliver 1 2 = 1; about 1 2 = 1; deliver 1 2 = 1; about 1 2 = 2
            # the row is empty, so the token stays
            leave 1 2 = done; waiting 2 0 = 0; waiting 2 1 = 0; waiting 2 3 = 1; first 2 3 = 100
            want 1 2 = done; about 1 2 = 2
            """);
        Run.of("token, one who was in the row before comes into it again", """
            want 1 0 = done; want 1 1 = done; deliver 1 0 = 1; leave 1 0 = done; deliver 0 1 = 1; leave 1 1 = done
            want 1 0 = done; deliver 0 1 = 1; deliver 1 0 = 1; about 1 0 = 2
            want 1 1 = done; deliver 1 0 = 1; leave 1 0 = done; first 0 1 = 110
            """);
        Run.of("token, what is done is not served again", """
            want 1 1 = done; deliver 1 0 = 1; deliver 0 1 = 1; leave 1 1 = done
            want 1 2 = done; deliver 2 1 = 1; deliver 1 2 = 1; about 1 2 = 1; deliver 1 2 = 1; about 1 2 = 2
            # 2 knows of 1's request, which is done
            leave 1 2 = done; waiting 2 1 = 0; count 1 = 8
            """);
    }

    private static void tree() {
        Run.of("tree, nobody waits", """
            want 2 0 = done; leave 2 0 = done; about 2 0 = 0; more 2 0 = 0; count 1 = 0
            leave 2 0 = throws.IllegalStateException
            """);
        Run.of("tree, the first in the queue gets the privilege, and it is asked back for the next", """
            want 2 0 = done; want 2 2 = done; want 2 1 = done
            deliver 2 0 = 2; deliver 1 0 = 2; count 1 = 2
            leave 2 0 = done; more 2 0 = 2; first 0 2 = 211; waiting 0 2 = 2; waiting 0 1 = 0; count 1 = 4
            deliver 0 2 = 2; about 2 2 = 2; more 2 2 = 2; first 0 2 = 200
            deliver 0 2 = 2; waiting 2 0 = 0
            leave 2 2 = done; first 2 0 = 210; more 2 2 = 0; about 2 2 = 0
            deliver 2 0 = 2; more 2 0 = 1; first 0 1 = 210
            deliver 0 1 = 2; about 2 1 = 2; more 2 1 = 1; count 0 = 3; count 1 = 6
            """);
    }

    private static void wrongInputs() {
        Run.of("leave, wrong inputs", """
            leave 0 0 = throws.IllegalStateException
            leave 1 0 = throws.IllegalStateException
            leave 2 0 = throws.IllegalStateException
            leave -1 0 = throws.IllegalArgumentException
            leave 3 0 = throws.IllegalArgumentException
            leave 0 -1 = throws.IllegalArgumentException
            leave 0 4 = throws.IllegalArgumentException
            leave 2147483647 0 = throws.IllegalArgumentException
            leave 1 -2147483648 = throws.IllegalArgumentException
            want 0 1 = done; leave 0 1 = throws.IllegalStateException
            want 1 1 = done; leave 1 1 = throws.IllegalStateException
            want 2 1 = done; leave 2 1 = throws.IllegalStateException
            want 1 0 = done; leave 0 0 = throws.IllegalStateException; leave 1 4 = throws.IllegalArgumentException
            leave 1 0 = done
            """);
    }
}
