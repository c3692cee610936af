import java.util.ArrayList;
import java.util.List;

/**
 * In every state of a game, for every argument that has a range: one below it, one above it and the
 * ends of int throw IllegalArgumentException, whatever else is wrong with the call, and change
 * nothing; the last good values on both sides are not refused for their range. And with all good
 * values, a call that throws, or only asks, changes nothing.
 */
final class Refusals {
    private static final String RANGE = "throws.IllegalArgumentException";

    /** A call, and the least and the greatest good value of each of its arguments. */
    private static final String[] CALLS = {
        "begin -1 3", "give 0 3 0 23", "start 0 3", "play 0 23", "canPlay 0 23", "hand 0 3", "won 0 1",
        "value 0 23", "lowestEqual 0 23", "unlike 0 3", "isTop 0 23", "quick 0 3", "fork 0 3 0 3",
    };
    private static final String[] CALLS_WITHOUT_ARGUMENTS = {
        "isStarted", "takeBack", "turn", "inTrick", "solve", "solveByAll", "bestCard", "goodForks",
    };
    private static final List<String> CHANGING = List.of("begin", "give", "start", "play", "takeBack");

    /** Ways into each state, by calls that all succeed. */
    private static final String[] STATES = {
        "new:",
        "trump:begin(3)",
        "dealing:begin(1) give(0,0) give(0,1) give(0,2) give(0,3) give(3,23)",
        "dealt:give(0,0) give(1,23) give(2,1) give(3,22)",
        "all dealt:give(0,0) give(0,1) give(0,2) give(0,3) give(1,6) give(1,7) give(1,8) give(1,9) give(2,12)"
            + " give(2,13) give(2,14) give(2,15) give(3,20) give(3,21) give(3,22) give(3,23)",
        "started:begin(2) give(0,0) give(1,23) give(2,1) give(3,22) start(3)",
        "in a trick:give(0,0) give(1,23) give(2,1) give(3,22) start(3) play(22) play(0) play(23)",
        "between tricks:begin(0) give(0,0) give(1,23) give(2,1) give(3,22) give(0,5) give(1,6) give(2,7)"
            + " give(3,8) start(0) play(5) play(6) play(1) play(8)",
        "over:give(0,0) give(1,23) give(2,1) give(3,22) start(2) play(1) play(22) play(0) play(23)",
        "taken back:give(0,0) give(1,23) give(2,1) give(3,22) start(2) play(1) takeBack()",
        "begun anew:begin(2) give(0,0) give(1,23) give(2,1) give(3,22) start(0) play(0) begin(-1)",
    };

    private Refusals() {
    }

    static void testAll() {
        for (String state : STATES) {
            String[] parts = state.split(":");
            List<String> history = parts.length < 2 ? List.of() : List.of(parts[1].split(" "));
            testHistory(parts[0], history);
            List<String> future = Future.of(history);
            for (String call : CALLS) {
                testCall(parts[0], history, future, call.split(" "));
                for (String good : allGood(call.split(" "))) {
                    testNoChange(parts[0], history, future, good);
                }
            }
            for (String call : CALLS_WITHOUT_ARGUMENTS) {
                testNoChange(parts[0], history, future, call + "()");
            }
            for (int place = -1; place <= 4; place++) {
                testNoChange(parts[0], history, future, "cardIn(" + place + ")");
            }
        }
    }

    private static void testHistory(String state, List<String> history) {
        Asker asker = new Asker(new OpenTricks());
        for (String call : history) {
            Check.same(state + ": " + call + " is refused",
                    String.valueOf(asker.askText(call).startsWith("throws")), "false");
        }
    }

    private static void testCall(String state, List<String> history, List<String> future, String[] call) {
        int arguments = (call.length - 1) / 2;
        for (int at = 0; at < arguments; at++) {
            int least = Integer.parseInt(call[1 + 2 * at]);
            int most = Integer.parseInt(call[2 + 2 * at]);
            for (boolean othersLeast : new boolean[] {true, false}) {
                for (int wrong : new int[] {least - 1, most + 1, Integer.MIN_VALUE, Integer.MAX_VALUE, most + 9}) {
                    testWrong(state, history, future, with(call, at, wrong, othersLeast));
                }
                for (int good : new int[] {least, most}) {
                    testGood(state, history, with(call, at, good, othersLeast));
                }
            }
        }
    }

    /** The call with this value at one place, and the least or the greatest good ones at the others. */
    private static String with(String[] call, int place, int value, boolean othersLeast) {
        List<String> values = new ArrayList<>();
        for (int at = 0; at < (call.length - 1) / 2; at++) {
            values.add(at == place ? String.valueOf(value) : call[(othersLeast ? 1 : 2) + 2 * at]);
        }
        return call[0] + "(" + String.join(",", values) + ")";
    }

    /** The call with every good value, with each one of the other argument if there is one. */
    private static List<String> allGood(String[] call) {
        List<String> calls = new ArrayList<>();
        for (int one = Integer.parseInt(call[1]); one <= Integer.parseInt(call[2]); one++) {
            if (call.length == 3) {
                calls.add(call[0] + "(" + one + ")");
                continue;
            }
            for (int other = Integer.parseInt(call[3]); other <= Integer.parseInt(call[4]); other++) {
                calls.add(call[0] + "(" + one + "," + other + ")");
            }
        }
        return calls;
    }

    private static void testWrong(String state, List<String> history, List<String> future, String call) {
        Check.same(state + ": " + call, Asker.after(history).askText(call), RANGE);
        testNoChange(state, history, future, call);
    }

    private static void testNoChange(String state, List<String> history, List<String> future, String call) {
        boolean refused = Asker.after(history).askText(call).startsWith("throws");
        if (!refused && CHANGING.contains(call.substring(0, call.indexOf('(')))) {
            return;
        }
        List<String> longer = new ArrayList<>(history);
        longer.add(call);
        Check.same(state + ": " + call + " changes", Future.difference(Future.of(longer), future), "");
    }

    private static void testGood(String state, List<String> history, String call) {
        boolean refused = Asker.after(history).askText(call).equals(RANGE);
        Check.same(state + ": " + call + " is refused for its range", String.valueOf(refused), "false");
    }
}
