import java.lang.reflect.Constructor;
import java.lang.reflect.Field;
import java.lang.reflect.Method;
import java.lang.reflect.Modifier;
import java.util.Arrays;
import java.util.Set;
import java.util.TreeSet;

/** The public face: what the document names, and no member beside it. */
public final class FaceTest {
    private static final String[] FACE = {
        "int addObject(boolean) IllegalStateException",
        "int addSection(int, boolean, int, int, int, boolean) IndexOutOfBoundsException, IllegalArgumentException, "
            + "IllegalStateException",
        "int define(int, int, int, char) IndexOutOfBoundsException, IllegalArgumentException, IllegalStateException",
        "int addCommon(int, int, int) IndexOutOfBoundsException, IllegalArgumentException, IllegalStateException",
        "int refer(int, int, int, char) IndexOutOfBoundsException, IllegalArgumentException, IllegalStateException",
        "int setRooms(int, int) IllegalArgumentException",
        "int setReach(int) IllegalArgumentException",
        "char link(int) IllegalArgumentException",
        "boolean isTaken(int) IndexOutOfBoundsException, IllegalStateException",
        "char fate(int) IndexOutOfBoundsException, IllegalStateException",
        "int address(int) IndexOutOfBoundsException, IllegalStateException, NoSuchElementException",
        "int addressOf(int) IllegalArgumentException, IllegalStateException, NoSuchElementException",
        "int target(int) IndexOutOfBoundsException, IllegalStateException, NoSuchElementException",
        "int targetAnew(int) IndexOutOfBoundsException, IllegalStateException, NoSuchElementException",
        "int valueOf(int) IndexOutOfBoundsException, IllegalStateException, NoSuchElementException",
        "boolean hasIsland(int) IndexOutOfBoundsException, IllegalStateException",
        "int islands() IllegalStateException",
        "int codeEnd() IllegalStateException",
        "int dataEnd() IllegalStateException",
        "long checksum() IllegalStateException",
        "int run() IllegalStateException",
        "int runPlain() IllegalStateException",
        "int steps() IllegalStateException",
        "int addLibrary() IllegalStateException",
        "int provide(int, int, int) NoSuchElementException, IllegalArgumentException, UnsupportedOperationException",
        "int need(int, int) NoSuchElementException, IllegalArgumentException, UnsupportedOperationException, "
            + "IllegalStateException",
        "int load(int) NoSuchElementException",
        "int unload(int) NoSuchElementException, IllegalStateException, UnsupportedOperationException",
        "int count(int) NoSuchElementException",
        "int loadedAt(int) IndexOutOfBoundsException",
        "int bind(int, int, int) NoSuchElementException, IllegalArgumentException, IllegalStateException, "
            + "UnsupportedOperationException",
        "int bindings() ",
        "int tell(boolean, boolean) ",
        "float laidShare() IllegalStateException, ArithmeticException",
        "double meanSize() IllegalStateException, ArithmeticException",
        "boolean isSound() IllegalStateException",
    };

    private FaceTest() {
    }

    public static void main(String[] args) {
        Set<String> shown = new TreeSet<>();
        Set<String> hidden = new TreeSet<>();
        for (Method method : LinkerYard.class.getDeclaredMethods()) {
            if (Modifier.isPrivate(method.getModifiers())) {
                hidden.add(method.getName());
            } else {
                shown.add(describe(method));
                Check.due(method.getName() + " is public", true, () -> Modifier.isPublic(method.getModifiers()));
            }
        }
        Check.due("the methods", new TreeSet<>(Arrays.asList(FACE)), () -> shown);
        for (Method method : LinkerYard.class.getMethods()) {
            Check.due("a private method of the name " + method.getName(), false,
                    () -> hidden.contains(method.getName()));
        }
        for (Field field : LinkerYard.class.getDeclaredFields()) {
            Check.due(field.getName() + " is private", true, () -> Modifier.isPrivate(field.getModifiers()));
        }
        Constructor<?>[] constructors = LinkerYard.class.getDeclaredConstructors();
        Check.due("the constructors", "[public LinkerYard()]", () -> Arrays.toString(constructors));
        Check.due("the class is final", true, () -> Modifier.isFinal(LinkerYard.class.getModifiers()));
        Check.end();
    }

    private static String describe(Method method) {
        return method.getReturnType().getSimpleName() + " " + method.getName() + "("
                + names(method.getParameterTypes()) + ") " + names(method.getExceptionTypes());
    }

    private static String names(Class<?>[] types) {
        StringBuilder text = new StringBuilder();
        for (Class<?> type : types) {
            text.append(text.length() == 0 ? "" : ", ").append(type.getSimpleName());
        }
        return text.toString();
    }
}
