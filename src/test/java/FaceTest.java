import java.lang.reflect.Constructor;
import java.lang.reflect.Field;
import java.lang.reflect.Method;
import java.lang.reflect.Modifier;
import java.util.Arrays;
import java.util.Set;
import java.util.TreeSet;
import java.util.stream.Collectors;

/** The class has the face that the document declares, and shows nothing else. */
final class FaceTest {
    private static final String[] FACE = {
        "int begin(int) throws IllegalArgumentException",
        "int give(int, int) throws IllegalArgumentException, IllegalStateException",
        "int start(int) throws IllegalArgumentException, IllegalStateException",
        "boolean isStarted()",
        "int play(int) throws IllegalArgumentException, IllegalStateException",
        "int takeBack() throws IllegalStateException",
        "boolean canPlay(int) throws IllegalArgumentException",
        "int turn()",
        "int hand(int) throws IllegalArgumentException",
        "int inTrick()",
        "int cardIn(int) throws IndexOutOfBoundsException",
        "int won(int) throws IllegalArgumentException",
        "int solve() throws IllegalStateException",
        "int solveByAll() throws IllegalStateException",
        "int value(int) throws IllegalArgumentException, IllegalStateException",
        "int bestCard() throws IllegalStateException",
        "int lowestEqual(int) throws IllegalArgumentException, IllegalStateException",
        "int unlike(int) throws IllegalArgumentException",
        "boolean isTop(int) throws IllegalArgumentException, IllegalStateException",
        "int quick(int) throws IllegalArgumentException",
        "int fork(int, int) throws IllegalArgumentException",
        "int goodForks()",
    };

    private FaceTest() {
    }

    static void testFace() {
        Class<OpenTricks> face = OpenTricks.class;
        Check.same("the class", Modifier.toString(face.getModifiers()), "public final");
        Set<String> shown = new TreeSet<>();
        Set<String> hidden = new TreeSet<>();
        for (Method method : face.getDeclaredMethods()) {
            if (Modifier.isPrivate(method.getModifiers())) {
                hidden.add(method.getName());
            } else {
                shown.add(told(method));
            }
        }
        Check.same("the methods", shown.toString(), new TreeSet<>(Arrays.asList(FACE)).toString());
        for (String name : callNames()) {
            Check.same("private " + name, String.valueOf(hidden.contains(name)), "false");
        }
        for (Field field : face.getDeclaredFields()) {
            Check.same("private " + field, String.valueOf(Modifier.isPrivate(field.getModifiers())), "true");
        }
        for (Constructor<?> made : face.getDeclaredConstructors()) {
            Check.same("the constructor", made.toString(), "public OpenTricks()");
        }
    }

    static Set<String> callNames() {
        return Arrays.stream(FACE).map(line -> line.substring(line.indexOf(' ') + 1, line.indexOf('(')))
                .collect(Collectors.toSet());
    }

    private static String told(Method method) {
        String thrown = names(method.getExceptionTypes());
        return (Modifier.isPublic(method.getModifiers()) ? "" : "not public ")
                + (Modifier.isStatic(method.getModifiers()) ? "static " : "")
                + method.getReturnType().getSimpleName() + " " + method.getName()
                + "(" + names(method.getParameterTypes()) + ")"
                + (thrown.isEmpty() ? "" : " throws " + thrown);
    }

    private static String names(Class<?>[] kinds) {
        return Arrays.stream(kinds).map(Class::getSimpleName).collect(Collectors.joining(", "));
    }
}
