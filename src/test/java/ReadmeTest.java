import java.io.IOException;
import java.lang.reflect.Method;
import java.lang.reflect.Modifier;
import java.nio.file.Files;
import java.nio.file.Path;
import java.util.ArrayList;
import java.util.List;
import java.util.regex.Matcher;
import java.util.regex.Pattern;

/** The example in README.md is compiled and run as it stands there, and prints the answers that README.md gives for it. */
final class ReadmeTest {
    private static final String BLOCK_BEGINS = "```java";
    private static final String BLOCK_ENDS = "```";
    private static final String PRINTS = "System.out.println(";
    /** The answer stands up to the first colon. */
    private static final Pattern ANSWER = Pattern.compile("// ([^:]+):");

    public static void main(String[] args) throws IOException, InterruptedException {
        List<String> readme = Files.readAllLines(Path.of("README.md"));
        List<String> example = example(readme);
        printsItsAnswers(example);
        everyCallIsMade(example);
        everyCallIsTold(readme);
        Run.end();
    }

    private static void printsItsAnswers(List<String> example) throws IOException, InterruptedException {
        List<String> printing = example.stream().filter(line -> line.contains(PRINTS)).toList();
        List<String> printed = printedBy(example);
        Run.check("README.md: that the example prints answers", printing.isEmpty(), false);
        Run.check("README.md: the number of lines that the example prints", printed.size(), printing.size());
        for (int i = 0; i < printing.size() && i < printed.size(); i++) {
            String line = printing.get(i).strip();
            Run.check("README.md: " + line, printed.get(i), answerIn(line));
        }
    }

    private static void everyCallIsMade(List<String> example) {
        String text = String.join("\n", example);
        Run.check("README.md: new NodeServices in the example", text.contains("new NodeServices("), true);
        for (Method method : calls()) {
            String call = "services." + method.getName() + "(";
            Run.check("README.md: " + call + " in the example", text.contains(call), true);
        }
    }

    /** A call is told of by a row of a table, which names as many arguments as the call has. */
    private static void everyCallIsTold(List<String> readme) {
        for (Method method : calls()) {
            Pattern row = Pattern.compile("\\| `" + method.getName() + "\\(([^)]*)\\)` \\| .+ \\|");
            int arguments = 0;
            for (String line : readme) {
                Matcher matcher = row.matcher(line);
                if (matcher.matches()) {
                    arguments = matcher.group(1).split(", ").length;
                }
            }
            Run.check("README.md: the arguments named for " + method.getName(), arguments, method.getParameterCount());
        }
    }

    private static List<Method> calls() {
        List<Method> calls = new ArrayList<>();
        for (Method method : NodeServices.class.getDeclaredMethods()) {
            if (Modifier.isPublic(method.getModifiers())) {
                calls.add(method);
            }
        }
        return calls;
    }

    private static List<String> example(List<String> readme) {
        int begin = readme.indexOf(BLOCK_BEGINS);
        Run.check("README.md: the example is the only one", readme.lastIndexOf(BLOCK_BEGINS), begin);
        List<String> rest = readme.subList(begin + 1, readme.size());
        int end = rest.indexOf(BLOCK_ENDS);
        if (begin < 0 || end < 0) {
            throw new IllegalStateException("README.md has no example");
        }
        return rest.subList(0, end);
    }

    private static String answerIn(String line) {
        Matcher matcher = ANSWER.matcher(line);
        return matcher.find() ? matcher.group(1) : "a line for which README.md gives no answer";
    }

    private static List<String> printedBy(List<String> example) throws IOException, InterruptedException {
        Path folder = Files.createTempDirectory("readme");
        Path file = folder.resolve("Example.java");
        try {
            Files.write(file, example);
            return printedBy(file);
        } finally {
            Files.deleteIfExists(file);
            Files.deleteIfExists(folder);
        }
    }

    private static List<String> printedBy(Path file) throws IOException, InterruptedException {
        String java = Path.of(System.getProperty("java.home"), "bin", "java").toString();
        Process process = new ProcessBuilder(java, "-cp", System.getProperty("java.class.path"), file.toString())
                .redirectError(ProcessBuilder.Redirect.INHERIT)
                .start();
        String text = new String(process.getInputStream().readAllBytes());
        Run.check("README.md: the exit code of the example", process.waitFor(), 0);
        return text.lines().toList();
    }
}
