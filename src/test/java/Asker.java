import java.lang.reflect.InvocationTargetException;
import java.lang.reflect.Method;
import java.util.Arrays;

/** Asks an object by the name of a call; an exception is an answer too: throws.ItsName. */
final class Asker {
    private final Object asked;

    Asker(Object asked) {
        this.asked = asked;
    }

    String ask(String name, int... arguments) {
        Class<?>[] kinds = new Class<?>[arguments.length];
        Arrays.fill(kinds, int.class);
        try {
            Method method = asked.getClass().getDeclaredMethod(name, kinds);
            return String.valueOf(method.invoke(asked, Arrays.stream(arguments).boxed().toArray()));
        } catch (InvocationTargetException e) {
            return "throws." + e.getCause().getClass().getSimpleName();
        } catch (ReflectiveOperationException e) {
            return "no such call";
        }
    }

    /** Takes "name(1, 2)". */
    String askText(String call) {
        int open = call.indexOf('(');
        String inside = call.substring(open + 1, call.indexOf(')')).trim();
        int[] arguments = inside.isEmpty() ? new int[0]
                : Arrays.stream(inside.split("\\s*,\\s*")).mapToInt(Integer::parseInt).toArray();
        return ask(call.substring(0, open), arguments);
    }

    /** All that can be seen, and by taking all cards back and playing them again, how it came so. */
    String state() {
        StringBuilder text = new StringBuilder(seen());
        int[] taken = new int[16];
        int count = 0;
        String card = ask("takeBack");
        while (!card.startsWith("throws") && count < taken.length) {
            text.append(" <").append(card).append(' ').append(seen());
            taken[count] = Integer.parseInt(card);
            count++;
            card = ask("takeBack");
        }
        while (count > 0) {
            count--;
            ask("play", taken[count]);
        }
        return text.toString();
    }

    private String seen() {
        StringBuilder text = new StringBuilder();
        text.append(ask("isStarted")).append(' ').append(ask("turn"));
        for (int player = 0; player < 4; player++) {
            text.append(" h").append(ask("hand", player));
        }
        text.append(" t").append(ask("inTrick"));
        for (int place = 0; place < 4; place++) {
            text.append(',').append(ask("cardIn", place));
        }
        return text.append(" w").append(ask("won", 0)).append(',').append(ask("won", 1)).toString();
    }
}
