import java.util.ArrayList;
import java.util.List;
import java.util.NoSuchElementException;

/**
 * A run of calls on a new object, written as text: "want 0 2 = done; first 2 1 = 0; leave 0 2 = throws.IllegalStateException".
 * Calls stand on lines of their own or behind a semicolon; a line that begins with # is a remark.
 * No object gets more than the 512 calls that the document promises anything about.
 */
final class Run {
    static final int MOST_CALLS = 512;
    private static final List<String> LOOKS = looks();
    /** A single fault can be met by a great many calls. */
    private static final int MOST_LINES = 100;

    private static int wrong = 0;

    private final String name;
    private final int id;
    private final int step;
    private final NodeServices services;
    private final List<String> made = new ArrayList<>();

    Run(String name, int id, int step) {
        this.name = name;
        this.id = id;
        this.step = step;
        this.services = new NodeServices(id, step);
    }

    static void of(String name, String calls) {
        new Run(name, 7, 30).calls(calls);
    }

    static void check(String what, Object got, Object due) {
        if (!due.equals(got)) {
            wrong++;
            if (wrong <= MOST_LINES) {
                System.out.println(what + " answered " + got + ", due is " + due);
            }
        }
    }

    static void end() {
        System.out.println(wrong == 0 ? "all answers are as due" : wrong + " answers are not as due");
        if (wrong != 0) {
            System.exit(1);
        }
    }

    static List<String> rows(String text) {
        List<String> rows = new ArrayList<>();
        for (String line : text.split("\n")) {
            if (!line.isBlank() && !line.strip().startsWith("#")) {
                for (String row : line.split(";")) {
                    rows.add(row.strip());
                }
            }
        }
        return rows;
    }

    Run calls(String text) {
        for (String row : rows(text)) {
            due(row);
        }
        return this;
    }

    /** The call of a row must give the row's answer, and must change nothing that can be seen if it throws. */
    private void due(String row) {
        String[] sides = row.split(" = ");
        if (sides.length != 2) {
            throw new IllegalStateException("not a call with its answer: " + row);
        }
        check(name + ", call " + (made.size() + 1) + ": " + sides[0], answer(sides[0]), sides[1]);
        boolean roomToLook = made.size() + LOOKS.size() <= MOST_CALLS;
        if (sides[1].startsWith("throws.") && roomToLook) {
            String before = again(made.size() - 1).seen();
            check(name + ": what is seen behind " + row, again(made.size()).seen(), before);
        }
    }

    /** Another object that has been through the first calls of this one: to look at it takes no call from this one. */
    Run again(int calls) {
        Run other = new Run(name, id, step);
        for (String call : made.subList(0, calls)) {
            other.answer(call);
        }
        return other;
    }

    /** A model that has been through the first calls of this object. */
    Model modelOf(int calls) {
        Model model = new Model(id, step);
        for (String call : made.subList(0, calls)) {
            model.answer(call);
        }
        return model;
    }

    int made() {
        return made.size();
    }

    String answer(String call) {
        if (made.size() >= MOST_CALLS) {
            throw new IllegalStateException(name + ": the test makes more than " + MOST_CALLS + " calls");
        }
        made.add(call);
        String[] words = call.split(" ");
        int[] n = new int[words.length - 1];
        for (int i = 0; i < n.length; i++) {
            n[i] = Integer.parseInt(words[i + 1]);
        }
        try {
            return answer(words[0], n);
        } catch (IllegalArgumentException | IllegalStateException | NoSuchElementException e) {
            return "throws." + e.getClass().getSimpleName();
        }
    }

    private String answer(String method, int[] n) {
        switch (method) {
            case "want": services.want(n[0], n[1]); return "done";
            case "leave": services.leave(n[0], n[1]); return "done";
            case "start": services.start(n[0]); return "done";
            case "begin": services.begin(n[0]); return "done";
            case "spread": services.spread(n[0], n[1]); return "done";
            case "rest": services.rest(n[0]); return "done";
            case "deliver": return "" + services.deliver(n[0], n[1]);
            case "first": return "" + services.first(n[0], n[1]);
            case "waiting": return "" + services.waiting(n[0], n[1]);
            case "about": return "" + services.about(n[0], n[1]);
            case "more": return "" + services.more(n[0], n[1]);
            case "count": return "" + services.count(n[0]);
            default: throw new UnsupportedOperationException("no such method: " + method);
        }
    }

    /** All that the object shows of itself. */
    String seen() {
        StringBuilder text = new StringBuilder();
        for (String look : LOOKS) {
            text.append(look).append(" = ").append(answer(look)).append("; ");
        }
        return text.toString();
    }

    /** The calls that show all of an object. */
    static List<String> looks() {
        List<String> looks = new ArrayList<>();
        for (int a = 0; a < 4; a++) {
            for (int b = 0; b < 4; b++) {
                if (a != b) {
                    looks.add("first " + a + " " + b);
                    looks.add("waiting " + a + " " + b);
                }
            }
            for (int service = 0; service < 5; service++) {
                looks.add("about " + service + " " + a);
                looks.add("more " + service + " " + a);
            }
            looks.add("count " + a);
        }
        return looks;
    }
}
