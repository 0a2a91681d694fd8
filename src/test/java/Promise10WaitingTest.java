/** Promise 10: waiting. */
public final class Promise10WaitingTest {
    public static void main(String[] args) {
        Run.of("waiting", """
            waiting 2 0 = 0; want 0 2 = done; waiting 2 0 = 1; waiting 2 1 = 1; waiting 2 3 = 1; waiting 0 2 = 0
            want 1 2 = done; waiting 2 0 = 2; want 2 2 = done; waiting 2 0 = 3; waiting 2 1 = 2; waiting 2 3 = 2
            start 2 = done; waiting 2 3 = 3; begin 2 = done; spread 2 3 = done; waiting 2 3 = 4
            deliver 2 3 = 0; waiting 2 3 = 3; waiting 3 2 = 1; deliver 2 3 = 1; waiting 2 3 = 2
            deliver 2 3 = 3; waiting 2 3 = 1; deliver 2 3 = 4; waiting 2 3 = 0; waiting 3 2 = 1; waiting 3 0 = 1
            """);
        manyWait();
        Run.of("waiting, wrong inputs", """
            waiting 0 0 = throws.IllegalArgumentException
            waiting 1 1 = throws.IllegalArgumentException
            waiting -1 0 = throws.IllegalArgumentException
            waiting 0 -1 = throws.IllegalArgumentException
            waiting 4 0 = throws.IllegalArgumentException
            waiting 0 4 = throws.IllegalArgumentException
            waiting 2147483647 -2147483648 = throws.IllegalArgumentException
            """);
        Run.end();
    }

    /** Nodes 0 and 1 hand the token to and fro, and no request to 2 and 3 is ever delivered. */
    private static void manyWait() {
        Run run = new Run("waiting, as many as 500 calls bring", 7, 30);
        run.calls("want 1 1 = done; deliver 1 0 = 1; deliver 0 1 = 1; leave 1 1 = done");
        int calls = 4;
        int sent = 1;
        for (int keeper = 1; calls < 500; keeper = 1 - keeper) {
            int other = 1 - keeper;
            run.calls("want 1 " + other + " = done; deliver " + other + " " + keeper + " = 1");
            // the token comes behind the keeper's own request, which is old by now
            while (!run.answer("first " + keeper + " " + other).equals("110")) {
                run.calls("deliver " + keeper + " " + other + " = 1");
                calls += 2;
            }
            run.calls("deliver " + keeper + " " + other + " = 1; leave 1 " + other + " = done");
            calls += 5;
            sent++;
        }
        String all = run.answer("waiting 1 2") + "+" + run.answer("waiting 0 2");
        Run.check("requests that wait for 2", all, (sent + 1) / 2 + "+" + sent / 2);
        Run.check("requests that wait for 3", run.answer("waiting 1 3"), "" + (sent + 1) / 2);
    }
}
