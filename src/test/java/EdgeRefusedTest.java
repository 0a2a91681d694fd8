import java.util.ArrayList;
import java.util.List;
import java.util.TreeMap;

/**
 * 'Terms': "A call that throws changes nothing." Not even what can't be looked at: a run of calls is made once as it
 * is, and once for each place in it and each call that is refused there, with that call put in. All else must be
 * answered the same, to the last call of the run.
 */
public final class EdgeRefusedTest {
    private static final List<String> ALL_CALLS = allCalls();
    private static final TreeMap<String, Integer> REFUSED = new TreeMap<>();

    public static void main(String[] args) {
        refusedAnywhere("stamps", """
            want 0 1; want 0 0; want 0 3; deliver 1 0; deliver 0 1; deliver 3 0; deliver 0 3; deliver 1 2; deliver 0 2
            deliver 2 1; deliver 2 0; deliver 3 1; deliver 1 3; deliver 1 0; deliver 3 0; leave 0 0; want 0 0
            deliver 0 1; deliver 0 1; deliver 3 1; deliver 0 3; leave 0 1; deliver 0 2; deliver 2 0; deliver 3 2
            deliver 1 3; deliver 2 3; deliver 0 3; leave 0 3; deliver 3 0; deliver 1 0
            """);
        refusedAnywhere("token", """
            want 1 0; want 1 3; want 1 1; deliver 3 0; deliver 1 0; leave 1 0; deliver 0 1; deliver 3 1; want 1 0
            deliver 0 1; leave 1 1; deliver 1 3; deliver 1 3; deliver 0 3; leave 1 3; deliver 3 0; want 1 2; deliver 2 0
            leave 1 0; deliver 0 2; deliver 0 2; leave 1 2; want 1 2; leave 1 2; want 1 1; deliver 1 2; deliver 2 1
            """);
        refusedAnywhere("tree", """
            want 2 3; want 2 2; deliver 3 1; want 2 1; deliver 1 0; deliver 2 0; want 2 0; deliver 0 1; deliver 1 3
            deliver 1 3; deliver 0 1; leave 2 3; deliver 3 1; leave 2 1; deliver 1 0; deliver 0 2; deliver 0 2; want 2 3
            leave 2 2; deliver 2 0; leave 2 0; deliver 3 1; deliver 1 0; deliver 0 1
            """);
        refusedAnywhere("election", """
            start 1; start 0; deliver 1 2; deliver 0 1; deliver 2 3; deliver 3 0; deliver 0 1; deliver 1 2; deliver 2 3
            deliver 3 0; start 0; deliver 0 1; deliver 1 2; deliver 2 3; deliver 0 1; deliver 1 2; start 3; deliver 3 0
            """);
        refusedAnywhere("work", """
            begin 1; spread 1 0; spread 1 2; deliver 1 0; spread 0 2; rest 0; deliver 1 2; deliver 0 2; deliver 2 0
            spread 2 1; rest 1; deliver 2 1; rest 2; deliver 1 2; rest 1; deliver 0 1; deliver 2 1; begin 2; rest 2
            """);
        refusedAnywhere("20 that aren't answered",
            "begin 0; " + "spread 0 1; ".repeat(20) + "deliver 0 1; ".repeat(3) + "deliver 1 0; spread 0 2");
        everyReasonWasThere();
        Run.end();
    }

    private static void refusedAnywhere(String name, String text) {
        List<String> calls = Run.rows(text);
        Run whole = new Run(name, 7, 30);
        for (String call : calls) {
            Run.check(name + ": is " + call + " refused", whole.answer(call).startsWith("throws."), false);
        }
        for (int place = 0; place <= calls.size(); place++) {
            for (String extra : ALL_CALLS) {
                insert(name, calls, place, extra);
            }
        }
    }

    private static void insert(String name, List<String> calls, int place, String extra) {
        Run run = new Run(name, 7, 30);
        for (String call : calls.subList(0, place)) {
            run.answer(call);
        }
        String got = run.answer(extra);
        if (!got.startsWith("throws.")) {
            return;
        }
        REFUSED.merge(extra.split(" ")[0] + " " + got, 1, Integer::sum);
        Model model = new Model(7, 30);
        for (String call : calls.subList(0, place)) {
            model.answer(call);
        }
        for (String call : calls.subList(place, calls.size())) {
            String what = name + ": " + call + " when " + extra + " was refused behind " + place + " calls";
            Run.check(what, run.answer(call), model.answer(call));
        }
        Run.check(name + ": what is seen when " + extra + " was refused behind " + place + " calls",
            run.seen(), model.seen());
    }

    private static List<String> allCalls() {
        List<String> calls = new ArrayList<>();
        for (int a = -1; a <= 4; a++) {
            for (String method : List.of("start", "begin", "rest")) {
                calls.add(method + " " + a);
            }
            for (int b = -1; b <= 4; b++) {
                for (String method : List.of("want", "leave", "spread", "deliver")) {
                    calls.add(method + " " + a + " " + b);
                }
            }
        }
        for (String method : List.of("first", "waiting", "about", "more")) {
            calls.add(method + " 0 4");
            calls.add(method + " -1 0");
        }
        return calls;
    }

    private static void everyReasonWasThere() {
        for (String method : List.of("want", "leave", "start", "begin", "spread", "rest")) {
            Run.check(method + " was refused by its state", REFUSED.containsKey(method + " " + Model.STATE), true);
            Run.check(method + " was refused by its arguments", REFUSED.containsKey(method + " " + Model.ARGUMENT), true);
        }
        Run.check("deliver was refused", REFUSED.containsKey("deliver " + Model.ELEMENT), true);
        Run.check("deliver was refused by its arguments", REFUSED.containsKey("deliver " + Model.ARGUMENT), true);
        for (String method : List.of("first", "waiting", "about", "more")) {
            Run.check(method + " was refused", REFUSED.containsKey(method + " " + Model.ARGUMENT), true);
        }
    }
}
