/** Promise 7: rest. */
public final class Promise07RestTest {
    public static void main(String[] args) {
        Run.of("rest, the root alone", """
            begin 3 = done; rest 3 = done; about 4 3 = 0; count 2 = 1; count 3 = -1; count 1 = 0
            rest 3 = throws.IllegalStateException
            begin 3 = done; rest 3 = done; count 2 = 2
            """);
        Run.of("rest, a child answers its parent", """
            begin 0 = done; spread 0 2 = done; deliver 0 2 = 4; more 4 2 = 0; about 4 2 = 3
            rest 2 = done; about 4 2 = 0; more 4 2 = -1; first 2 0 = 410; count 2 = 0
            rest 2 = throws.IllegalStateException
            # the root is busy: it has not ended when it is answered
            deliver 2 0 = 4; about 4 0 = 3; count 2 = 0; rest 0 = done; count 2 = 1
            """);
        Run.of("rest, who isn't answered keeps its parent", """
            begin 0 = done; spread 0 1 = done; deliver 0 1 = 4; spread 1 2 = done
            rest 1 = done; about 4 1 = 6; more 4 1 = 0; waiting 1 0 = 0
            rest 1 = throws.IllegalStateException
            rest 0 = done; count 2 = 0; count 3 = 0; about 4 0 = 6
            deliver 1 2 = 4; rest 2 = done; first 2 1 = 410
            deliver 2 1 = 4; about 4 1 = 0; more 4 1 = -1; first 1 0 = 410
            deliver 1 0 = 4; about 4 0 = 0; count 2 = 1; count 3 = -1; count 1 = 4
            """);
        Run.of("rest, wrong inputs", """
            rest 0 = throws.IllegalStateException
            rest -1 = throws.IllegalArgumentException
            rest 4 = throws.IllegalArgumentException
            rest 2147483647 = throws.IllegalArgumentException
            rest -2147483648 = throws.IllegalArgumentException
            begin 0 = done; rest 1 = throws.IllegalStateException; rest 4 = throws.IllegalArgumentException
            """);
        Run.end();
    }
}
