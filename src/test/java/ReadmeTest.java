import java.io.File;
import java.io.IOException;
import java.lang.reflect.Method;
import java.lang.reflect.Modifier;
import java.nio.file.Files;
import java.nio.file.Path;
import java.util.ArrayList;
import java.util.Arrays;
import java.util.List;
import java.util.Map;
import java.util.TreeMap;
import java.util.regex.Matcher;
import java.util.regex.Pattern;
import javax.tools.ToolProvider;

/** What README.md shows of the class is what the class answers and throws. */
public final class ReadmeTest {
    private static final Path README = Path.of("README.md");
    private static final Path DOCUMENT = Path.of("../shared/DOC.md");
    private static final Path TESTS = Path.of("src/test/java");
    private static final Pattern THROWN = Pattern.compile("\\| `(\\w+)` \\| `(\\w+)` \\| (.+) \\|");

    private static final String HEAD = """
        import java.util.NoSuchElementException;

        final class ReadmeProgram {
            static void run(Check check) {
        """;
    private static final String TAIL = """

            }
        }
        """;

    private record Thrown(String name, String when) {
    }

    public static void main(String[] args) throws Exception {
        Check check = new Check();
        List<String> readme = Files.readAllLines(README);
        answers(check, readme);
        Map<String, List<Thrown>> table = table(readme);
        thrownAsDeclared(check, table);
        thrownAsInTheDocument(check, table);
        everyTestNamed(check, readme);
        check.end();
    }

    private static void answers(Check check, List<String> readme) throws Exception {
        List<String> program = program(readme);
        check.due("README.md shows answers", () -> program.size() > 0, true);
        // Next to the tests, so that the program may use Check.
        String classes = System.getProperty("java.class.path").split(File.pathSeparator)[0];
        Path source = Path.of(classes, "ReadmeProgram.java");
        Files.writeString(source, HEAD + String.join("\n", program) + TAIL);
        int failed = ToolProvider.getSystemJavaCompiler()
            .run(null, null, null, "-cp", classes, "-d", classes, source.toString());
        check.due("exit code of javac for the program in README.md", () -> failed, 0);
        if (failed == 0) {
            Class.forName("ReadmeProgram").getDeclaredMethod("run", Check.class).invoke(null, check);
        }
    }

    private static List<String> program(List<String> readme) {
        List<String> program = new ArrayList<>();
        boolean inside = false;
        for (String line : readme) {
            if (line.startsWith("```")) {
                inside = line.equals("```java");
            } else if (inside) {
                program.add(withCheck(line));
            }
        }
        return program;
    }

    private static String withCheck(String line) {
        int comment = line.indexOf("//");
        if (comment < 0) {
            return line;
        }
        String statement = line.substring(0, comment).strip();
        String call = statement.substring(0, statement.length() - 1);
        String want = line.substring(comment + 2).strip();
        if (want.startsWith("throws ")) {
            String thrown = want.substring("throws ".length());
            return "check.refused(\"" + call + "\", () -> " + call + ", " + thrown + ".class);";
        }
        int assigned = call.indexOf(" = ");
        if (assigned < 0) {
            return "check.due(\"" + call + "\", () -> " + call + ", \"" + want + "\");";
        }
        String name = call.substring(call.indexOf(' ') + 1, assigned);
        return statement + " check.due(\"" + call + "\", () -> " + name + ", \"" + want + "\");";
    }

    private static Map<String, List<Thrown>> table(List<String> readme) {
        Map<String, List<Thrown>> table = new TreeMap<>();
        for (String line : readme) {
            Matcher row = THROWN.matcher(line);
            if (row.matches()) {
                table.computeIfAbsent(row.group(1), name -> new ArrayList<>())
                    .add(new Thrown(row.group(2), row.group(3)));
            }
        }
        return table;
    }

    private static void thrownAsDeclared(Check check, Map<String, List<Thrown>> table) {
        Map<String, List<String>> shown = new TreeMap<>();
        table.forEach((name, rows) -> shown.put(name, rows.stream().map(Thrown::name).toList()));
        Map<String, List<String>> declared = new TreeMap<>();
        for (Method method : DomainKeys.class.getDeclaredMethods()) {
            if (Modifier.isPublic(method.getModifiers()) && method.getExceptionTypes().length > 0) {
                declared.put(method.getName(),
                    Arrays.stream(method.getExceptionTypes()).map(Class::getSimpleName).toList());
            }
        }
        check.due("the table of what is thrown", () -> shown, declared);
    }

    private static void thrownAsInTheDocument(Check check, Map<String, List<Thrown>> table) throws IOException {
        List<String> document = Files.readAllLines(DOCUMENT);
        table.forEach((name, rows) -> {
            List<String> parts = rows.stream().map(row -> row.name() + " when " + row.when()).toList();
            String sentence = "Throws " + String.join("; ", parts) + ".";
            boolean found = document.stream()
                .anyMatch(line -> line.startsWith("`") && line.contains(" " + name + "(") && line.endsWith(sentence));
            check.due("the document says of " + name + ": " + sentence, () -> found, true);
        });
    }

    private static void everyTestNamed(Check check, List<String> readme) throws IOException {
        String text = String.join("\n", readme);
        try (var files = Files.list(TESTS)) {
            files.map(file -> file.getFileName().toString()).filter(name -> name.endsWith("Test.java")).sorted()
                .map(name -> "| `" + name.replace(".java", "") + "` |")
                .forEach(row -> check.due("README.md has " + row, () -> text.contains(row), true));
        }
    }
}
