import java.io.IOException;
import java.lang.reflect.Method;
import java.lang.reflect.Modifier;
import java.net.URL;
import java.net.URLClassLoader;
import java.nio.file.DirectoryStream;
import java.nio.file.Files;
import java.nio.file.Path;
import java.util.ArrayList;
import java.util.List;
import java.util.regex.Matcher;
import java.util.regex.Pattern;
import javax.tools.ToolProvider;

/** What README.md says is true of the class as it stands. */
public final class ReadmeTests {
    private static final Checks CHECKS = new Checks();
    private static final Path README = Path.of("README.md");
    private static final Path TESTS = Path.of("src/test/java");

    private static final Pattern LINE = Pattern.compile("(.*;)\\s+// (.*)");
    private static final Pattern ANSWER = Pattern.compile("(-?\\d+|true|false|throws \\w+)(:.*|)");
    private static final Pattern NAMED = Pattern.compile("int (\\w+) = (.*);");

    private ReadmeTests() {
    }

    public static void main(String[] args) {
        CHECKS.runTests(ReadmeTests.class, "readme");
        CHECKS.end("ReadmeTests");
    }

    private static List<String> exampleLines() throws IOException {
        Matcher block = Pattern.compile("(?s)```java\n(.*?)```").matcher(Files.readString(README));
        CHECKS.same("there is an example", true, block.find());
        List<String> lines = new ArrayList<>();
        for (String line : block.group(1).split("\n")) {
            if (!line.isBlank()) {
                lines.add(line);
            }
        }
        return lines;
    }

    /** A call's answer is put on a list; one that throws puts the exception there. */
    private static String noting(String statement, String answer) {
        Matcher named = NAMED.matcher(statement);
        if (named.matches()) {
            return statement + " got.add(\"\" + " + named.group(1) + ");";
        }
        String add = "got.add(\"\" + " + statement.replace(";", "") + ");";
        String thrown = "got.add(\"throws \" + e.getClass().getSimpleName());";
        return answer.startsWith("throws") ? "try { " + add + " } catch (RuntimeException e) { " + thrown + " }" : add;
    }

    /** The answers that the example's calls give, in their order; those that are due are put on the other list. */
    private static List<?> run(List<String> lines, List<String> due) throws IOException, ReflectiveOperationException {
        StringBuilder source = new StringBuilder("public final class Example {\n");
        source.append("public static java.util.List<String> run() {\n");
        source.append("java.util.List<String> got = new java.util.ArrayList<>();\n");
        for (String line : lines) {
            Matcher parts = LINE.matcher(line);
            CHECKS.same("a statement and a comment: " + line, true, parts.matches());
            Matcher answer = ANSWER.matcher(parts.group(2));
            if (answer.matches()) {
                due.add(answer.group(1));
                source.append(noting(parts.group(1), answer.group(1))).append('\n');
            } else {
                source.append(parts.group(1)).append('\n');
            }
        }
        source.append("return got; } }\n");
        return compiledAndRun(source.toString());
    }

    private static List<?> compiledAndRun(String source) throws IOException, ReflectiveOperationException {
        Path dir = Files.createTempDirectory("readme");
        Path file = dir.resolve("Example.java");
        Path compiled = dir.resolve("Example.class");
        try {
            Files.writeString(file, source);
            String classes = System.getProperty("java.class.path");
            int code = ToolProvider.getSystemJavaCompiler().run(null, null, null, "-cp", classes, file.toString());
            CHECKS.same("the example compiles", 0, code);
            try (URLClassLoader loader = new URLClassLoader(new URL[] {dir.toUri().toURL()})) {
                return (List<?>) loader.loadClass("Example").getMethod("run").invoke(null);
            }
        } finally {
            Files.deleteIfExists(compiled);
            Files.deleteIfExists(file);
            Files.deleteIfExists(dir);
        }
    }

    /** "The number that a comment begins with is the call's answer." */
    static void readmeExampleAnswersWhatItSays() throws IOException, ReflectiveOperationException {
        List<String> lines = exampleLines();
        List<String> due = new ArrayList<>();
        List<?> got = run(lines, due);
        CHECKS.same("the answers", due, got);
        CHECKS.same("many answers are told", true, due.size() > lines.size() / 2);
    }

    /** The table of calls has every one of the face, with what it throws. */
    static void readmeNamesEveryCall() throws IOException {
        List<String> rows = new ArrayList<>();
        for (String line : Files.readAllLines(README)) {
            if (line.startsWith("| `")) {
                rows.add(line);
            }
        }
        for (Method method : BoundedMachines.class.getDeclaredMethods()) {
            List<String> of = rows.stream().filter(row -> row.startsWith("| `" + method.getName() + "(")).toList();
            CHECKS.same("rows of " + method.getName(), Modifier.isPublic(method.getModifiers()) ? 1 : 0, of.size());
            for (Class<?> thrown : method.getExceptionTypes()) {
                CHECKS.same(method.getName() + " and " + thrown, true, of.toString().contains(thrown.getSimpleName()));
            }
        }
    }

    /** The list of tests has every file that there is, and no other. */
    static void readmeNamesEveryFileOfTests() throws IOException {
        String text = Files.readString(README);
        try (DirectoryStream<Path> files = Files.newDirectoryStream(TESTS)) {
            for (Path file : files) {
                String name = file.getFileName().toString().replace(".java", "");
                CHECKS.same(name + " is named", true, text.contains("`" + name + "`"));
            }
        }
        Matcher named = Pattern.compile("`(\\w+Tests)`").matcher(text);
        while (named.find()) {
            CHECKS.same(named.group(1) + " is there", true, Files.exists(TESTS.resolve(named.group(1) + ".java")));
        }
    }
}
