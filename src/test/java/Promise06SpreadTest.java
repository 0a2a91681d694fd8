/** Promise 6: spread. */
public final class Promise06SpreadTest {
    public static void main(String[] args) {
        Run.of("spread", """
            begin 1 = done; spread 1 3 = done; about 4 1 = 7; first 1 3 = 400; count 1 = 1
            spread 1 3 = done; spread 1 0 = done; about 4 1 = 15; waiting 1 3 = 2; waiting 1 0 = 1
            # work that is on its way makes nobody busy
            spread 3 1 = throws.IllegalStateException
            deliver 1 3 = 4; spread 3 1 = done; about 4 3 = 7; first 3 1 = 400
            """);
        Run.of("spread, who rests can't", """
            begin 1 = done; spread 1 0 = done; rest 1 = done; spread 1 0 = throws.IllegalStateException
            """);
        twentyUnanswered();
        Run.of("spread, wrong inputs", """
            spread 0 1 = throws.IllegalStateException
            spread 0 0 = throws.IllegalArgumentException
            begin 0 = done
            spread 0 0 = throws.IllegalArgumentException
            spread 0 -1 = throws.IllegalArgumentException
            spread 0 4 = throws.IllegalArgumentException
            spread -1 0 = throws.IllegalArgumentException
            spread 4 0 = throws.IllegalArgumentException
            spread 4 4 = throws.IllegalArgumentException
            spread 0 2147483647 = throws.IllegalArgumentException
            spread -2147483648 0 = throws.IllegalArgumentException
            """);
        Run.end();
    }

    private static void twentyUnanswered() {
        Run run = new Run("spread, at most 20 unanswered", 7, 30);
        run.calls("begin 0 = done");
        for (int i = 1; i <= 20; i++) {
            run.calls("spread 0 " + (1 + i % 3) + " = done; about 4 0 = " + (3 + 4 * i));
        }
        run.calls("""
            spread 0 1 = throws.IllegalStateException
            spread 0 3 = throws.IllegalStateException
            spread 0 0 = throws.IllegalArgumentException
            count 1 = 20
            # the second WORK is answered at once
            deliver 0 1 = 4; deliver 0 1 = 4; spread 0 1 = throws.IllegalStateException
            deliver 1 0 = 4; about 4 0 = 79; spread 0 1 = done; about 4 0 = 83
            spread 0 1 = throws.IllegalStateException
            # the bound is each node's own
            spread 1 0 = done
            """);
    }
}
