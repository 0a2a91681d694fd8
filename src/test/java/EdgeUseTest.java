/** 'What it is': "An object is used for at most 512 calls after it has been made": all of them are answered as due. */
public final class EdgeUseTest {
    public static void main(String[] args) {
        lastCallComesIn();
        lastCallDelivers();
        lastCallIsRefused("want 1 0", "throws.IllegalStateException");
        lastCallIsRefused("want 3 0", "throws.IllegalArgumentException");
        lastCallIsRefused("deliver 0 1", "throws.NoSuchElementException");
        refusedCallsAreCallsToo();
        mostComingsIn();
        mostEnds();
        highestClock();
        manyServicesInOneChannel();
        longestChannels();
        Run.end();
    }

    private static Run timesOver(String name, int times, String calls) {
        Run run = new Run(name, 7, 30);
        for (int i = 0; i < times; i++) {
            run.calls(calls);
        }
        return run;
    }

    private static void allIsUsed(Run run) {
        Run.check("the calls of this test", run.made(), Run.MOST_CALLS);
    }

    private static void lastCallComesIn() {
        Run run = timesOver("the 511th call comes in, the 512th looks", 255, "want 1 0 = done; leave 1 0 = done");
        allIsUsed(run.calls("want 1 0 = done; about 1 0 = 2"));
        run = timesOver("the 512th call leaves", 256, "want 2 0 = done; leave 2 0 = done");
        allIsUsed(run);
    }

    private static void lastCallDelivers() {
        Run run = timesOver("the 512th call delivers", 127, "begin 0 = done; count 3 = 0; rest 0 = done; count 3 = -1");
        allIsUsed(run.calls("begin 2 = done; spread 2 3 = done; waiting 2 3 = 1; deliver 2 3 = 4"));
    }

    private static void lastCallIsRefused(String call, String due) {
        Run run = timesOver("the 512th call is refused", 255, "want 1 0 = done; leave 1 0 = done");
        allIsUsed(run.calls("want 1 0 = done; " + call + " = " + due));
    }

    private static void refusedCallsAreCallsToo() {
        Run run = new Run("two calls behind 510 refused ones", 7, 30);
        for (int i = 0; i < 102; i++) {
            for (String call : new String[] {"leave 0 0", "rest 1", "spread 1 2", "leave 2 3", "leave 1 0"}) {
                Run.check(call, run.answer(call), "throws.IllegalStateException");
            }
        }
        allIsUsed(run.calls("want 2 1 = done; first 1 0 = 200"));
    }

    private static void mostComingsIn() {
        Run run = timesOver("255 comings in", 127, "want 1 0 = done; leave 1 0 = done");
        run.calls("count 0 = 127; want 1 0 = done; count 0 = 128; leave 1 0 = done");
        for (int i = 0; i < 126; i++) {
            run.calls("want 2 0 = done; leave 2 0 = done");
        }
        allIsUsed(run.calls("want 2 0 = done; count 0 = 255"));
    }

    private static void mostEnds() {
        Run run = timesOver("255 ends of work", 128, "begin 3 = done; rest 3 = done");
        run.calls("count 2 = 128");
        for (int i = 0; i < 127; i++) {
            run.calls("begin 0 = done; rest 0 = done");
        }
        allIsUsed(run.calls("count 2 = 255"));
    }

    private static void highestClock() {
        String round = """
            want 0 N = done
            deliver N A = 0; deliver A N = 0; deliver N B = 0; deliver B N = 0; deliver N C = 0; deliver C N = 0
            leave 0 N = done
            """;
        String three = round.replace("N", "3").replace("A", "0").replace("B", "1").replace("C", "2");
        String zero = round.replace("N", "0").replace("A", "1").replace("B", "2").replace("C", "3");
        Run run = new Run("63 stamps", 7, 30);
        for (int i = 1; i <= 31; i++) {
            run.calls(three).calls(zero);
        }
        run.calls("more 0 0 = 62; more 0 1 = 62; more 0 2 = 62; more 0 3 = 62").calls(three);
        allIsUsed(run.calls("more 0 0 = 63; more 0 3 = 63; count 0 = 63; count 1 = 378"));
    }

    private static void manyServicesInOneChannel() {
        Run run = new Run("many messages of several services", 7, 30);
        run.calls("want 0 0 = done; want 0 1 = done; want 0 2 = done; want 0 3 = done");
        run.calls("want 1 1 = done; want 1 2 = done; want 1 3 = done; count 1 = 21");
        run.calls("start 0 = done; start 1 = done; start 2 = done; start 3 = done; begin 0 = done; count 1 = 25");
        for (int i = 0; i < 20; i++) {
            run.calls("spread 0 1 = done");
        }
        run.calls("waiting 0 1 = 22; count 1 = 45");
        // the stamp's REQUEST is answered, and all WORK but the first
        run.calls("deliver 0 1 = 0; deliver 0 1 = 3");
        for (int i = 0; i < 20; i++) {
            run.calls("deliver 0 1 = 4");
        }
        run.calls("waiting 0 1 = 0; waiting 1 0 = 22; first 1 0 = 1; count 1 = 65");
    }

    /** 0 and 1 hand the token to and fro, while what they send to 2 and 3 piles up until the 512th call. */
    private static void longestChannels() {
        Run run = new Run("channels that nobody empties", 7, 30);
        run.calls("want 1 1 = done; deliver 1 0 = 1; deliver 0 1 = 1; leave 1 1 = done");
        for (int i = 0; i < 55; i++) {
            run.calls("want 1 0 = done; deliver 0 1 = 1; deliver 1 0 = 1; leave 1 0 = done");
            run.calls("want 1 1 = done; deliver 1 0 = 1; deliver 0 1 = 1; leave 1 1 = done");
        }
        run.calls("waiting 1 2 = 56; waiting 1 3 = 56; waiting 0 2 = 55; waiting 0 3 = 55; first 1 2 = 101; first 0 3 = 101");
        for (int i = 0; i < 55; i++) {
            run.calls("deliver 1 2 = 1");
        }
        allIsUsed(run.calls("waiting 1 2 = 1; deliver 1 2 = 1; first 1 2 = -1")
            .calls("deliver 1 2 = throws.NoSuchElementException; waiting 0 2 = 55; more 1 0 = 55; more 1 1 = 56"));
    }
}
