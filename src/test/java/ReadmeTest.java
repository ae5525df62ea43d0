import java.io.File;
import java.io.IOException;
import java.lang.reflect.Method;
import java.lang.reflect.Modifier;
import java.nio.file.Files;
import java.nio.file.Path;
import java.util.ArrayList;
import java.util.List;
import java.util.Set;
import java.util.TreeSet;
import java.util.regex.Matcher;
import java.util.regex.Pattern;

/** What README.md says: its example's answers, and what it tells of each call. */
public final class ReadmeTest {
    private static final Pattern EXAMPLE = Pattern.compile("```java\n(.*?)```", Pattern.DOTALL);
    private static final Pattern ANSWER = Pattern.compile("System\\.out\\.println\\((.*)\\);\\s*// (.*)");
    private static final Pattern EXCEPTION = Pattern.compile("`(\\w+Exception)`");
    private static final Pattern TEST = Pattern.compile("\\| `(\\w+Test)` \\|");

    private ReadmeTest() {
    }

    public static void main(String[] args) throws Exception {
        String page = Files.readString(Path.of("README.md"));
        example(page);
        rows(page);
        tests(page);
        Check.end();
    }

    private static void example(String page) throws Exception {
        Matcher found = EXAMPLE.matcher(page);
        Check.due("there is an example", true, found::find);
        String source = found.group(1);
        List<String> calls = new ArrayList<>();
        List<String> answers = new ArrayList<>();
        Matcher told = ANSWER.matcher(source);
        while (told.find()) {
            calls.add(told.group(1));
            answers.add(told.group(2));
        }
        List<String> printed = printed(source);
        Check.due("lines that the example prints", answers.size(), printed::size);
        for (int line = 0; line < answers.size(); line++) {
            int asked = line;
            Check.due("example: " + calls.get(line), answers.get(line), () -> printed.get(asked));
        }
    }

    /** Compiles and runs the example as the page tells it, and answers what it printed. */
    private static List<String> printed(String source) throws Exception {
        Path place = Files.createTempDirectory("example");
        Path file = place.resolve("Example.java");
        Files.writeString(file, source);
        String classes = System.getProperty("java.class.path");
        outcome("javac", "-cp", classes, "-d", place.toString(), file.toString());
        List<String> printed = outcome("java", "-cp", classes + File.pathSeparator + place, "Example");
        remove(place);
        return printed;
    }

    private static List<String> outcome(String... command) throws Exception {
        Process process = new ProcessBuilder(command).redirectError(ProcessBuilder.Redirect.INHERIT).start();
        List<String> lines = new String(process.getInputStream().readAllBytes()).lines().toList();
        int code = process.waitFor();
        Check.due("exit code of " + command[0], 0, () -> code);
        return lines;
    }

    private static void remove(Path place) throws IOException {
        for (String name : new String[] {"Example.java", "Example.class"}) {
            Files.deleteIfExists(place.resolve(name));
        }
        Files.deleteIfExists(place);
    }

    /** Each call has a row with its parameters, and with its exceptions in the order of the document. */
    private static void rows(String page) {
        List<String> rows = page.lines().filter(line -> line.startsWith("| `") && line.contains(")` |")).toList();
        int calls = 0;
        for (Method method : LinkerYard.class.getDeclaredMethods()) {
            if (Modifier.isPublic(method.getModifiers())) {
                calls++;
                row(rows, method);
            }
        }
        Check.due("rows of calls", calls, rows::size);
    }

    private static void row(List<String> rows, Method method) {
        List<String> its = rows.stream().filter(row -> row.startsWith("| `" + method.getName() + "(")).toList();
        Check.due("rows of " + method.getName(), 1, its::size);
        if (its.size() != 1) {
            return;
        }
        String call = its.get(0).substring(0, its.get(0).indexOf(")`"));
        String told = call.substring(call.indexOf('(') + 1);
        Check.due("parameters of " + method.getName(), method.getParameterCount(),
                () -> told.isEmpty() ? 0 : told.split(", ").length);
        List<String> due = new ArrayList<>();
        for (Class<?> type : method.getExceptionTypes()) {
            due.add(type.getSimpleName());
        }
        Check.due("exceptions of " + method.getName(), due, () -> exceptions(its.get(0)));
    }

    private static List<String> exceptions(String row) {
        List<String> found = new ArrayList<>();
        Matcher told = EXCEPTION.matcher(row);
        while (told.find()) {
            found.add(told.group(1));
        }
        return found;
    }

    /** Each test has a row, and each row a test. */
    private static void tests(String page) {
        Set<String> told = new TreeSet<>();
        Matcher row = TEST.matcher(page);
        while (row.find()) {
            told.add(row.group(1) + ".java");
        }
        String[] there = Path.of("src/test/java").toFile().list((place, name) -> name.endsWith("Test.java"));
        Check.due("tests", new TreeSet<>(List.of(there)), () -> told);
    }
}
