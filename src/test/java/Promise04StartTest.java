/** Promise 4: start. */
public final class Promise04StartTest {
    public static void main(String[] args) {
        Run.of("start", """
            start 1 = done; more 3 1 = 1037; first 1 2 = 300; count 1 = 1; about 3 1 = -1
            more 3 0 = 7; more 3 2 = 67; more 3 3 = 97
            start 1 = throws.IllegalStateException
            start 3 = done; first 3 0 = 300; more 3 3 = 1097
            start 3 = throws.IllegalStateException
            """);
        Run.of("start, one who takes part by a message", """
            start 3 = done; deliver 3 0 = 3; more 3 0 = 1007; start 0 = throws.IllegalStateException
            start 1 = done
            deliver 1 2 = 3; more 3 2 = 1067; start 2 = throws.IllegalStateException
            """);
        Run.of("start, again when the election is over", """
            start 3 = done
            deliver 3 0 = 3; deliver 0 1 = 3; deliver 1 2 = 3; deliver 2 3 = 3; more 3 3 = 97; about 3 3 = 97
            deliver 3 0 = 3; more 3 0 = 7; about 3 0 = 97
            start 0 = done; more 3 0 = 1007; about 3 0 = 97; first 0 1 = 311; count 1 = 7
            start 3 = done; first 3 0 = 300
            """);
        Run.of("start, wrong inputs", """
            start -1 = throws.IllegalArgumentException
            start 4 = throws.IllegalArgumentException
            start 2147483647 = throws.IllegalArgumentException
            start -2147483648 = throws.IllegalArgumentException
            """);
        Run.end();
    }
}
