import java.io.IOException;
import java.io.UncheckedIOException;
import java.lang.reflect.Method;
import java.net.URL;
import java.net.URLClassLoader;
import java.nio.file.Files;
import java.nio.file.Path;
import java.util.ArrayList;
import java.util.Comparator;
import java.util.List;
import java.util.regex.Matcher;
import java.util.regex.Pattern;
import java.util.stream.Stream;
import javax.tools.ToolProvider;

/**
 * README.md is there, and says how to use the class and how to run its tests: its example is
 * compiled and run, and each answer written behind a call there must be the one that is given.
 */
public final class ReadmeTest {
    private static final Path README = Path.of("README.md");
    private static final Path TESTS = Path.of("src/test/java");
    private static final Path RUN = Path.of(".ci/run");
    // A call, with the name for what it answers or without, and behind it the answer and a colon.
    private static final Pattern ANSWERED =
        Pattern.compile("(?:(int \\w+) = )?(tapes\\.\\w+\\(.*\\)); +// ([\\w-]+): .*");

    private static final Answers A = new Answers();

    public static void main(String[] args) throws Exception {
        A.due("README.md is there", Files.isRegularFile(README), true);
        if (Files.isRegularFile(README)) {
            String text = Files.readString(README);
            use(section(text, "How to use it"));
            tests(section(text, "How to run its tests"));
        }
        A.end();
    }

    private static String section(String text, String heading) {
        return between(text, "\n## " + heading + "\n", "\n## ");
    }

    /** What stands between the two: "" without the first, all up to the end without the second. */
    private static String between(String text, String before, String behind) {
        int start = text.indexOf(before);
        if (start < 0) {
            return "";
        }
        start += before.length();
        int end = text.indexOf(behind, start);
        return end < 0 ? text.substring(start) : text.substring(start, end);
    }

    private static void use(String section) throws Exception {
        says(section, "src/main/java/TapeChains.java");
        String example = between(section, "\n```java\n", "```");
        says(example, "new TapeChains()");
        for (Method call : openCalls()) {
            says(example, "tapes." + call.getName() + "(");
            String row = between(section, "\n| `" + call.getName() + "(", "\n");
            A.due("a row for " + call.getName(), row.isEmpty(), false);
            A.due("thrown in the row for " + call.getName(), thrownIn(row), throwsOf(call));
        }
        answersHold(example);
    }

    private static List<Method> openCalls() {
        return Stream.of(TapeChains.class.getMethods())
            .filter(m -> m.getDeclaringClass() == TapeChains.class).toList();
    }

    private static List<String> thrownIn(String row) {
        return Pattern.compile("\\w+Exception").matcher(row).results().map(r -> r.group()).toList();
    }

    private static List<String> throwsOf(Method call) {
        return Stream.of(call.getExceptionTypes()).map(Class::getSimpleName).toList();
    }

    private static void says(String text, String words) {
        A.due("README.md says, where it must: " + words, text.contains(words), true);
    }

    private static void tests(String section) throws IOException {
        says(section, "\n```sh\n.ci/run\n```\n");
        A.due(RUN + " can be run", Files.isExecutable(RUN), true);
        says(section, "../shared/tests");
        try (Stream<Path> files = Files.list(TESTS)) {
            files.map(f -> f.getFileName().toString()).filter(f -> f.endsWith("Test.java"))
                .forEach(f -> says(section, "- `" + f.replace(".java", "") + "`: "));
        }
    }

    private static void answersHold(String example) throws Exception {
        List<String> lines = example.lines().filter(l -> !l.isBlank()).toList();
        for (Method call : openCalls()) {
            A.due("answers of " + call.getName() + " left out", leftOut(call, lines), List.of());
        }
        Path out = Files.createTempDirectory("readme");
        try {
            if (compiles(program(lines), out)) {
                run(out).forEach(r -> A.due("README.md: " + r[0], r[1], r[2]));
            }
        } finally {
            remove(out);
        }
    }

    private static List<String> leftOut(Method call, List<String> lines) {
        return lines.stream()
            .filter(l -> call.getReturnType() != void.class)
            .filter(l -> l.contains("tapes." + call.getName() + "("))
            .filter(l -> !ANSWERED.matcher(l).matches()).toList();
    }

    private static String program(List<String> lines) {
        StringBuilder code = new StringBuilder();
        code.append("public final class Example {\n")
            .append("public static void run(java.util.List<String[]> rows) {\n");
        for (String line : lines) {
            Matcher m = ANSWERED.matcher(line);
            code.append(m.matches() ? asked(m.group(1), m.group(2), m.group(3)) : line + "\n");
        }
        return code.append("}\n}\n").toString();
    }

    private static String asked(String named, String call, String answer) {
        if (answer.endsWith("Exception")) {
            String due = "\"" + answer + "\"";
            return "try {\n" + row(call, call, due) + "} catch (RuntimeException e) {\n"
                + row(call, "e.getClass().getSimpleName()", due) + "}\n";
        }
        if (named == null) {
            return row(call, call, answer);
        }
        return named + " = " + call + ";\n" + row(call, named.replace("int ", ""), answer);
    }

    private static String row(String call, String got, String due) {
        return "rows.add(new String[] {\"" + call + "\", \"\" + "
            + got + ", \"\" + " + due + "});\n";
    }

    private static boolean compiles(String program, Path out) throws IOException {
        Path file = Files.writeString(out.resolve("Example.java"), program);
        int code = ToolProvider.getSystemJavaCompiler().run(null, null, null,
            "-cp", System.getProperty("java.class.path"), "-d", out.toString(), file.toString());
        A.due("javac of the example ends with", code, 0);
        return code == 0;
    }

    private static List<String[]> run(Path out) throws Exception {
        List<String[]> rows = new ArrayList<>();
        try (URLClassLoader loader = new URLClassLoader(new URL[] {out.toUri().toURL()})) {
            loader.loadClass("Example").getMethod("run", List.class).invoke(null, rows);
        }
        return rows;
    }

    private static void remove(Path directory) throws IOException {
        try (Stream<Path> all = Files.walk(directory)) {
            all.sorted(Comparator.reverseOrder()).forEach(ReadmeTest::delete);
        }
    }

    private static void delete(Path file) {
        try {
            Files.delete(file);
        } catch (IOException e) {
            throw new UncheckedIOException(e);
        }
    }
}
