import java.util.NoSuchElementException;

/**
 * A run of calls on a new object, written as text: "want 0 2 = done; first 2 1 = 0; leave 0 2 = throws.IllegalStateException".
 * Calls stand on lines of their own or behind a semicolon; a line that begins with # is a remark.
 */
final class Run {
    private static int wrong = 0;

    private final String name;
    private final NodeServices services;

    Run(String name, int id, int step) {
        this.name = name;
        this.services = new NodeServices(id, step);
    }

    static void of(String name, String calls) {
        new Run(name, 7, 30).calls(calls);
    }

    static void check(String what, Object got, Object due) {
        if (!due.equals(got)) {
            wrong++;
            System.out.println(what + " answered " + got + ", due is " + due);
        }
    }

    static void end() {
        System.out.println(wrong == 0 ? "all answers are as due" : wrong + " answers are not as due");
        if (wrong != 0) {
            System.exit(1);
        }
    }

    Run calls(String text) {
        for (String line : text.split("\n")) {
            if (line.isBlank() || line.strip().startsWith("#")) {
                continue;
            }
            for (String row : line.split(";")) {
                due(row.strip());
            }
        }
        return this;
    }

    /** The call of a row must give the row's answer, and must change nothing that can be seen if it throws. */
    private void due(String row) {
        String[] sides = row.split(" = ");
        if (sides.length != 2) {
            throw new IllegalStateException("not a call with its answer: " + row);
        }
        String call = sides[0].strip();
        String due = sides[1].strip();
        String before = due.startsWith("throws.") ? seen() : "";
        check(name + ": " + call, answer(call), due);
        if (due.startsWith("throws.")) {
            check(name + ": what is seen after " + row, seen(), before);
        }
    }

    String answer(String call) {
        String[] words = call.split(" +");
        int[] n = new int[words.length - 1];
        for (int i = 0; i < n.length; i++) {
            n[i] = Integer.parseInt(words[i + 1]);
        }
        try {
            return answer(words[0], n);
        } catch (IllegalArgumentException | IllegalStateException | NoSuchElementException e) {
            return "throws." + e.getClass().getSimpleName();
        }
    }

    private String answer(String method, int[] n) {
        switch (method) {
            case "want": services.want(n[0], n[1]); return "done";
            case "leave": services.leave(n[0], n[1]); return "done";
            case "start": services.start(n[0]); return "done";
            case "begin": services.begin(n[0]); return "done";
            case "spread": services.spread(n[0], n[1]); return "done";
            case "rest": services.rest(n[0]); return "done";
            case "deliver": return "" + services.deliver(n[0], n[1]);
            case "first": return "" + services.first(n[0], n[1]);
            case "waiting": return "" + services.waiting(n[0], n[1]);
            case "about": return "" + services.about(n[0], n[1]);
            case "more": return "" + services.more(n[0], n[1]);
            case "count": return "" + services.count(n[0]);
            default: throw new UnsupportedOperationException("no such method: " + method);
        }
    }

    /** All that the object shows of itself. */
    String seen() {
        StringBuilder text = new StringBuilder();
        for (int a = 0; a < 4; a++) {
            for (int b = 0; b < 4; b++) {
                if (a != b) {
                    text.append(services.first(a, b)).append('/').append(services.waiting(a, b)).append(' ');
                }
            }
            for (int service = 0; service < 5; service++) {
                text.append(services.about(service, a)).append(':').append(services.more(service, a)).append(' ');
            }
            text.append(services.count(a)).append('\n');
        }
        return text.toString();
    }
}
