import java.lang.reflect.Field;
import java.lang.reflect.Method;
import java.lang.reflect.Modifier;
import java.nio.file.Files;
import java.nio.file.Path;
import java.util.ArrayList;
import java.util.HashMap;
import java.util.List;
import java.util.Map;
import java.util.Set;
import java.util.TreeSet;
import java.util.regex.Matcher;
import java.util.regex.Pattern;

/** Rules of LANGUAGE.md that can be read off the class and its source. */
public final class LanguageTest {
    private static final Path SOURCE = Path.of("src/main/java/LinkerYard.java");
    private static final Set<String> IMPORTS = Set.of("java.util.ArrayList", "java.util.Arrays", "java.util.Iterator",
            "java.util.List", "java.util.NoSuchElementException");
    private static final Set<String> STRANGERS = Set.of("finally", "synchronized", "assert", "volatile", "transient",
            "native", "try", "catch", "var", "Object", "Thread", "Random", "getMessage", "hashCode", "toString",
            "nanoTime", "currentTimeMillis", "println");
    private static final Set<String> THROWN = Set.of("IllegalStateException", "IllegalArgumentException",
            "IndexOutOfBoundsException", "ArithmeticException", "UnsupportedOperationException",
            "NoSuchElementException", "RuntimeException");
    private static final Pattern HEAD = Pattern.compile(
            "\n {4,8}(?:public|private) (?:static )?[\\w\\[\\]]+ (\\w+)\\(([^)]*)\\)[^;{]*\\{");
    private static final Pattern WORD = Pattern.compile("\\w+");
    private static final Pattern CALL = Pattern.compile("(\\w+)\\(");
    private static final int MOST_LINES = 60;
    private static final int MOST_PARAMETERS = 7;
    private static final int MOST_CLASSES = 12;
    private static final int MOST_FIELDS = 20;
    private static final int MOST_DEPTH = 8;

    private LanguageTest() {
    }

    public static void main(String[] args) throws Exception {
        String source = Files.readString(SOURCE);
        String code = source.replaceAll("(?s)/\\*.*?\\*/", "").replaceAll("//[^\n]*", "");
        members();
        words(source, code.replaceAll("\"[^\"\n]*\"", "\"\""));
        exceptions(code);
        methods(code);
        Check.end();
    }

    /** Rules 1, 2, 5 and 11. */
    private static void members() {
        List<Class<?>> classes = new ArrayList<>(List.of(LinkerYard.class.getDeclaredClasses()));
        for (Class<?> inside : classes) {
            Check.due(inside.getSimpleName() + " is static", true, () -> Modifier.isStatic(inside.getModifiers()));
            Check.due(inside.getSimpleName() + " is shown", false,
                    () -> (inside.getModifiers() & (Modifier.PUBLIC | Modifier.PROTECTED)) != 0);
        }
        classes.add(LinkerYard.class);
        Check.due("as many classes as may be", true, () -> classes.size() <= MOST_CLASSES);
        Set<String> face = new TreeSet<>();
        for (Method method : LinkerYard.class.getDeclaredMethods()) {
            if (Modifier.isPublic(method.getModifiers())) {
                face.add(method.getName());
            }
        }
        for (Class<?> one : classes) {
            for (Method method : one.getDeclaredMethods()) {
                Check.due(one.getSimpleName() + "." + method.getName() + " bears a public name", false,
                        () -> Modifier.isPrivate(method.getModifiers()) && face.contains(method.getName()));
            }
            fields(one);
        }
    }

    private static void fields(Class<?> one) {
        int own = 0;
        for (Field field : one.getDeclaredFields()) {
            if (Modifier.isStatic(field.getModifiers())) {
                Check.due(one.getSimpleName() + "." + field.getName() + " is a constant number", true,
                        () -> Modifier.isFinal(field.getModifiers()) && field.getType() == int.class);
            } else {
                own++;
            }
        }
        boolean isFew = own <= MOST_FIELDS;
        Check.due(one.getSimpleName() + " has as many fields as may be", true, () -> isFew);
    }

    /** Rules 3, 4, 6, 10 and 13. */
    private static void words(String source, String code) {
        Check.due("signs are plain", true, () -> source.chars().allMatch(sign -> sign < 128));
        Matcher word = WORD.matcher(code);
        Set<String> strangers = new TreeSet<>();
        while (word.find()) {
            if (STRANGERS.contains(word.group())) {
                strangers.add(word.group());
            }
        }
        Check.due("words that may not be there", "[]", () -> strangers);
        for (String sign : new String[] {"->", "::", "\"\" +", "+ \"\"", "null"}) {
            Check.due("in the source: " + sign, false, () -> code.contains(sign));
        }
        Matcher brought = Pattern.compile("import ([^;]+);").matcher(code);
        while (brought.find()) {
            String name = brought.group(1);
            Check.due("import of " + name, true, () -> IMPORTS.contains(name));
        }
    }

    /** Rule 6: what is thrown is new, of a class of the rule, with a written text. */
    private static void exceptions(String code) {
        Matcher thrown = Pattern.compile("\\bthrow\\b([^;]*);").matcher(code);
        while (thrown.find()) {
            Matcher made = Pattern.compile(" new (\\w+)\\((\"[^\"]*\")?\\)").matcher(thrown.group(1));
            Check.due("throw" + thrown.group(1), true, () -> made.matches() && THROWN.contains(made.group(1)));
        }
    }

    /** Rule 11, by the names of the methods; a method that calls itself is a recursion. */
    private static void methods(String code) {
        Map<String, Set<String>> called = new HashMap<>();
        Matcher head = HEAD.matcher(code);
        while (head.find()) {
            String name = head.group(1);
            String parameters = head.group(2);
            String body = body(code, head.end());
            Check.due("parameters of " + name, true, () -> parameters.split(",").length <= MOST_PARAMETERS);
            Check.due("lines of " + name, true, () -> body.lines().count() <= MOST_LINES);
            Matcher call = CALL.matcher(body);
            while (call.find()) {
                called.computeIfAbsent(name, there -> new TreeSet<>()).add(call.group(1));
            }
            called.computeIfAbsent(name, there -> new TreeSet<>()).remove(name);
        }
        Check.due("methods found", true, () -> called.size() > 36);
        for (String name : called.keySet()) {
            Check.due("calls open in " + name, true, () -> depth(name, called, 0) <= MOST_DEPTH);
        }
    }

    /** What stands between the bracket before a place and the one that closes it. */
    private static String body(String code, int from) {
        int open = 1;
        int at = from;
        while (at < code.length() && open > 0) {
            open += code.charAt(at) == '{' ? 1 : code.charAt(at) == '}' ? -1 : 0;
            at++;
        }
        return code.substring(from, at);
    }

    private static int depth(String name, Map<String, Set<String>> called, int above) {
        int deepest = 0;
        for (String next : called.get(name)) {
            if (called.containsKey(next) && above <= MOST_DEPTH) {
                deepest = Math.max(deepest, depth(next, called, above + 1));
            }
        }
        return deepest + 1;
    }
}
