import java.lang.reflect.InvocationTargetException;
import java.lang.reflect.Method;
import java.lang.reflect.Modifier;
import java.util.Arrays;
import java.util.HashMap;
import java.util.List;
import java.util.Map;

/** Asks an object by the name of a call; an exception is an answer too: throws.ItsName. */
final class Asker {
    /** What an object answers behind so many calls is free, so no test may look at it. */
    static final int MOST_CALLS = 512;

    private static final Map<Class<?>, Map<String, Method>> METHODS = new HashMap<>();

    private final Object asked;
    private final Map<String, Method> methods;
    private int calls = 0;

    Asker(Object asked) {
        this.asked = asked;
        this.methods = METHODS.computeIfAbsent(asked.getClass(), Asker::publicMethods);
    }

    /** A new OpenTricks that has gone through these calls. */
    static Asker after(List<String> history) {
        Asker asker = new Asker(new OpenTricks());
        for (String call : history) {
            asker.askText(call);
        }
        return asker;
    }

    private static Map<String, Method> publicMethods(Class<?> kind) {
        Map<String, Method> found = new HashMap<>();
        for (Method method : kind.getDeclaredMethods()) {
            if (Modifier.isPublic(method.getModifiers())) {
                found.put(method.getName() + "/" + method.getParameterCount(), method);
            }
        }
        return found;
    }

    String ask(String name, int... arguments) {
        Method method = methods.get(name + "/" + arguments.length);
        if (method == null) {
            return "no such call";
        }
        calls++;
        if (calls > MOST_CALLS && asked instanceof OpenTricks) {
            throw new AssertionError("a test asks more than " + MOST_CALLS + " calls of one object");
        }
        try {
            return String.valueOf(method.invoke(asked, Arrays.stream(arguments).boxed().toArray()));
        } catch (InvocationTargetException e) {
            return "throws." + e.getCause().getClass().getSimpleName();
        } catch (IllegalAccessException e) {
            return "no access";
        }
    }

    /** Takes "name(1, 2)". */
    String askText(String call) {
        int open = call.indexOf('(');
        String inside = call.substring(open + 1, call.indexOf(')')).trim();
        int[] arguments = inside.isEmpty() ? new int[0]
                : Arrays.stream(inside.split("\\s*,\\s*")).mapToInt(Integer::parseInt).toArray();
        return ask(call.substring(0, open), arguments);
    }
}
