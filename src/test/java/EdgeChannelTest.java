/**
 * Promises 8 to 10: an empty channel, one message in it, and more than one, for every channel there is; and promises
 * 11 and 12: "-1 for none".
 */
public final class EdgeChannelTest {
    public static void main(String[] args) {
        for (int from = 0; from < 4; from++) {
            for (int to = 0; to < 4; to++) {
                if (from != to) {
                    emptyOneAndMore(from, to);
                    emptiedAndFilledAgain(from, to);
                    theOthersStayEmpty(from, to);
                }
            }
        }
        everyKindAloneAndNot();
        noneIsMinusOne();
        Run.end();
    }

    private static Run of(String name, int from, int to, String calls) {
        String text = calls.replace("FROM", "" + from).replace("TO", "" + to);
        return new Run(name + ", from " + from + " to " + to, 7, 30).calls(text);
    }

    private static void emptyOneAndMore(int from, int to) {
        of("empty, one message, and more than one", from, to, """
            first FROM TO = -1; waiting FROM TO = 0; deliver FROM TO = throws.NoSuchElementException
            begin FROM = done; spread FROM TO = done; first FROM TO = 400; waiting FROM TO = 1
            spread FROM TO = done; first FROM TO = 401; waiting FROM TO = 2
            spread FROM TO = done; first FROM TO = 401; waiting FROM TO = 3
            deliver FROM TO = 4; first FROM TO = 401; waiting FROM TO = 2
            deliver FROM TO = 4; first FROM TO = 400; waiting FROM TO = 1
            deliver FROM TO = 4; first FROM TO = -1; waiting FROM TO = 0
            deliver FROM TO = throws.NoSuchElementException; first FROM TO = -1; waiting FROM TO = 0
            """);
    }

    private static void emptiedAndFilledAgain(int from, int to) {
        of("emptied and filled again", from, to, """
            want 0 FROM = done; first FROM TO = 0; waiting FROM TO = 1
            deliver FROM TO = 0; first FROM TO = -1; waiting FROM TO = 0
            deliver FROM TO = throws.NoSuchElementException
            begin FROM = done; spread FROM TO = done; first FROM TO = 400; waiting FROM TO = 1
            spread FROM TO = done; first FROM TO = 401; waiting FROM TO = 2
            deliver FROM TO = 4; deliver FROM TO = 4; first FROM TO = -1; deliver FROM TO = throws.NoSuchElementException
            spread FROM TO = done; deliver FROM TO = 4; waiting FROM TO = 0; first FROM TO = -1
            """);
        of("filled on before it is empty", from, to, """
            begin FROM = done; spread FROM TO = done; spread FROM TO = done; deliver FROM TO = 4; waiting FROM TO = 1
            want 0 FROM = done; first FROM TO = 401; waiting FROM TO = 2
            deliver FROM TO = 4; first FROM TO = 0; spread FROM TO = done; first FROM TO = 1; waiting FROM TO = 2
            deliver FROM TO = 0; first FROM TO = 400; deliver FROM TO = 4; first FROM TO = -1
            """);
    }

    private static void theOthersStayEmpty(int from, int to) {
        Run run = of("one channel only", from, to, "begin FROM = done; spread FROM TO = done; count 1 = 1");
        for (int a = 0; a < 4; a++) {
            for (int b = 0; b < 4; b++) {
                if (a != b && !(a == from && b == to)) {
                    run.calls("waiting " + a + " " + b + " = 0; first " + a + " " + b + " = -1");
                    run.calls("deliver " + a + " " + b + " = throws.NoSuchElementException");
                }
            }
        }
        run.calls("waiting " + from + " " + to + " = 1; deliver " + from + " " + to + " = 4");
    }

    private static void everyKindAloneAndNot() {
        Run.of("REQUEST of stamps", "want 0 0 = done; first 0 1 = 0; start 0 = done; first 0 1 = 1");
        Run.of("REPLY", "want 0 0 = done; deliver 0 1 = 0; first 1 0 = 10; want 0 1 = done; first 1 0 = 11");
        Run.of("REQUEST of the token", "want 1 1 = done; first 1 2 = 100; start 1 = done; first 1 2 = 101");
        Run.of("TOKEN", "want 1 1 = done; deliver 1 0 = 1; first 0 1 = 110; start 0 = done; first 0 1 = 111");
        Run.of("REQUEST of the tree", "want 2 1 = done; first 1 0 = 200; want 0 1 = done; first 1 0 = 201");
        Run.of("PRIVILEGE", "want 2 1 = done; deliver 1 0 = 2; first 0 1 = 210; start 0 = done; first 0 1 = 211");
        Run.of("ELECT", "start 2 = done; first 2 3 = 300; want 0 2 = done; first 2 3 = 301");
        Run.of("LEADER", """
            start 3 = done; deliver 3 0 = 3; deliver 0 1 = 3; deliver 1 2 = 3; deliver 2 3 = 3
            first 3 0 = 310; want 0 3 = done; first 3 0 = 311
            """);
        Run.of("WORK", "begin 0 = done; spread 0 2 = done; first 0 2 = 400; want 0 0 = done; first 0 2 = 401");
        Run.of("ANSWER", """
            begin 0 = done; spread 0 2 = done; deliver 0 2 = 4; rest 2 = done; first 2 0 = 410
            want 0 2 = done; first 2 0 = 411
            """);
        Run.of("the one behind it says nothing of the first", """
            begin 0 = done; spread 0 1 = done; start 0 = done; want 0 0 = done; first 0 1 = 401; deliver 0 1 = 4
            first 0 1 = 301; deliver 0 1 = 3; first 0 1 = 0; deliver 0 1 = 0; first 0 1 = -1
            """);
    }

    private static void noneIsMinusOne() {
        Run.of("-1 for none: leaders, parents and the root of a new object", """
            about 3 0 = -1; about 3 1 = -1; about 3 2 = -1; about 3 3 = -1
            more 4 0 = -1; more 4 1 = -1; more 4 2 = -1; more 4 3 = -1; count 3 = -1
            """);
        Run.of("-1 for none: the root has no parent, and 0 is a root and a parent like any other", """
            begin 0 = done; count 3 = 0; more 4 0 = -1; spread 0 3 = done; deliver 0 3 = 4; more 4 3 = 0; more 4 0 = -1
            rest 3 = done; more 4 3 = -1; deliver 3 0 = 4; rest 0 = done; count 3 = -1
            """);
    }
}
