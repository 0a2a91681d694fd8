/** Promise 5: begin. */
public final class Promise05BeginTest {
    public static void main(String[] args) {
        Run.of("begin", """
            begin 2 = done; count 3 = 2; about 4 2 = 3; more 4 2 = -1; count 1 = 0; count 2 = 0
            begin 2 = throws.IllegalStateException
            begin 0 = throws.IllegalStateException
            rest 2 = done; count 3 = -1; begin 0 = done; count 3 = 0; about 4 0 = 3
            """);
        Run.of("begin, the root rests but is not answered", """
            begin 0 = done; spread 0 1 = done; rest 0 = done; count 3 = 0; about 4 0 = 6
            begin 0 = throws.IllegalStateException
            begin 3 = throws.IllegalStateException
            deliver 0 1 = 4; begin 1 = throws.IllegalStateException
            rest 1 = done; begin 1 = throws.IllegalStateException
            deliver 1 0 = 4; count 3 = -1; count 2 = 1
            begin 1 = done; count 3 = 1
            """);
        Run.of("begin, wrong inputs", """
            begin -1 = throws.IllegalArgumentException
            begin 4 = throws.IllegalArgumentException
            begin 2147483647 = throws.IllegalArgumentException
            begin -2147483648 = throws.IllegalArgumentException
            begin 0 = done; begin 4 = throws.IllegalArgumentException
            """);
        Run.end();
    }
}
