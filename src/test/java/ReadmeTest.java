import java.io.IOException;
import java.lang.reflect.Method;
import java.lang.reflect.Modifier;
import java.net.URL;
import java.net.URLClassLoader;
import java.nio.file.Files;
import java.nio.file.Path;
import java.util.ArrayList;
import java.util.List;
import java.util.Set;
import java.util.TreeSet;
import java.util.regex.Matcher;
import java.util.regex.Pattern;
import java.util.stream.Stream;
import javax.tools.ToolProvider;

/** What README.md shows of the class and says of the tests, held against both; run in the project's directory. */
public final class ReadmeTest {
    private static final Path README = Path.of("README.md");
    private static final Path TESTS = Path.of("src", "test", "java");
    private static final Pattern OBJECT = Pattern.compile("KilogramRows x = new KilogramRows\\(\\d+\\);.*");
    private static final Pattern CALL = Pattern.compile(
        "(?:int (\\w+) = )?(x\\.(\\w+)\\([^;]*\\));\\s+// (throws \\w+|true|false|-?\\d+)(?:[,:] .*)?");
    private static final Pattern TABLE = Pattern.compile("\\| `(\\w+)\\(([^)]*)\\)` \\|(.*)");
    private static final Pattern TEST_NAME = Pattern.compile("`(\\w+Test)`");
    private static final Due due = new Due();

    public static void main(String[] args) throws Exception {
        List<String> lines = Files.readAllLines(README);
        shownLinesAnswerWhatTheySay(lines);
        tableNamesEveryCall(lines);
        listNamesEveryTest(lines);
        due.end();
    }

    private static List<String> shownLines(List<String> lines) {
        List<String> shown = new ArrayList<>();
        boolean inside = false;
        for (String line : lines) {
            if (line.startsWith("```")) {
                inside = line.equals("```java");
            } else if (inside && !line.isBlank()) {
                shown.add(line);
            }
        }
        return shown;
    }

    private static void shownLinesAnswerWhatTheySay(List<String> lines) throws Exception {
        StringBuilder body = new StringBuilder();
        List<String> calls = new ArrayList<>();
        List<String> want = new ArrayList<>();
        Set<String> names = new TreeSet<>();
        for (String line : shownLines(lines)) {
            Matcher call = CALL.matcher(line);
            if (call.matches()) {
                body.append(statement(call)).append('\n');
                calls.add(call.group(2));
                want.add(call.group(4));
                names.add(call.group(3));
            } else {
                due.yes("a line that makes the object, or a call with its answer: " + line, OBJECT.matcher(line).matches());
                body.append(line).append('\n');
            }
        }
        due.text("the calls that are shown", names.toString(), callNames().toString());
        List<?> got = answers(body.toString());
        due.same("answers of the lines shown", got.size(), want.size());
        for (int i = 0; i < Math.min(got.size(), want.size()); i++) {
            due.text(calls.get(i), String.valueOf(got.get(i)), want.get(i));
        }
    }

    /** The call as it stands, with what it answers or throws told to the list got. */
    private static String statement(Matcher call) {
        if (call.group(1) != null) {
            return "int " + call.group(1) + " = " + call.group(2) + "; got.add(String.valueOf(" + call.group(1) + "));";
        }
        String told = "got.add(String.valueOf(" + call.group(2) + "));";
        if (!call.group(4).startsWith("throws")) {
            return told;
        }
        return "try { " + told + " } catch (RuntimeException e) { got.add(\"throws \" + e.getClass().getSimpleName()); }";
    }

    private static List<?> answers(String body) throws Exception {
        Path made = Files.createTempDirectory("readme");
        try {
            Path source = made.resolve("Shown.java");
            Files.writeString(source, "public final class Shown {\npublic static java.util.List<String> answers() {\n"
                + "java.util.List<String> got = new java.util.ArrayList<>();\n" + body + "return got;\n}\n}\n");
            int failed = ToolProvider.getSystemJavaCompiler().run(null, null, null, "-d", made.toString(), "-cp",
                System.getProperty("java.class.path"), source.toString());
            due.same("the lines shown are compiled", failed, 0);
            if (failed != 0) {
                return List.of();
            }
            try (URLClassLoader loader = new URLClassLoader(new URL[] {made.toUri().toURL()})) {
                return (List<?>) loader.loadClass("Shown").getMethod("answers").invoke(null);
            }
        } finally {
            Files.deleteIfExists(made.resolve("Shown.java"));
            Files.deleteIfExists(made.resolve("Shown.class"));
            Files.delete(made);
        }
    }

    private static List<Method> calls() {
        List<Method> calls = new ArrayList<>();
        for (Method method : KilogramRows.class.getDeclaredMethods()) {
            if (Modifier.isPublic(method.getModifiers())) {
                calls.add(method);
            }
        }
        return calls;
    }

    private static Set<String> callNames() {
        Set<String> names = new TreeSet<>();
        for (Method method : calls()) {
            names.add(method.getName());
        }
        return names;
    }

    private static void tableNamesEveryCall(List<String> lines) {
        Set<String> named = new TreeSet<>();
        for (String line : lines) {
            Matcher row = TABLE.matcher(line);
            if (!row.matches()) {
                continue;
            }
            due.yes("the table names " + row.group(1) + " once", named.add(row.group(1)));
            for (Method method : calls()) {
                if (method.getName().equals(row.group(1))) {
                    sameCall(method, row);
                }
            }
        }
        due.text("the calls that the table names", named.toString(), callNames().toString());
    }

    private static void sameCall(Method method, Matcher row) {
        String arguments = row.group(2);
        int count = arguments.isEmpty() ? 0 : arguments.split(", ").length;
        due.same("arguments of " + method.getName(), count, method.getParameterCount());
        for (Class<?> thrown : List.of(ArithmeticException.class, IndexOutOfBoundsException.class)) {
            boolean declared = List.of(method.getExceptionTypes()).contains(thrown);
            boolean told = row.group(3).contains(thrown.getSimpleName());
            due.same("the table tells that " + method.getName() + " throws " + thrown.getSimpleName(), told ? 1 : 0,
                declared ? 1 : 0);
        }
    }

    private static void listNamesEveryTest(List<String> lines) throws IOException {
        Set<String> named = new TreeSet<>();
        Matcher name = TEST_NAME.matcher(String.join("\n", lines));
        while (name.find()) {
            named.add(name.group(1));
        }
        Set<String> there = new TreeSet<>();
        try (Stream<Path> files = Files.list(TESTS)) {
            files.map(file -> file.getFileName().toString()).filter(file -> file.endsWith("Test.java"))
                .forEach(file -> there.add(file.substring(0, file.length() - ".java".length())));
        }
        due.text("the tests that the list names", named.toString(), there.toString());
    }
}
