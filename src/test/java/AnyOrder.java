import java.util.ArrayList;
import java.util.HashMap;
import java.util.List;
import java.util.Map;

/**
 * Every order of a few events (dealing, playing on, taking back, asking, beginning anew) up to a
 * length. Whatever was done before, and refused, the object must answer as the plain model does that
 * came straight to the same cards.
 */
final class AnyOrder {
    private static final int MOST_EVENTS = 7;
    private static final int CARDS = 24;
    private static final int PLAYERS = 4;

    /** The same eight cards in other hands: what an object kept of one deal is wrong for the other. */
    private static final String DEAL =
            "give(0,5) give(1,4) give(2,1) give(3,12) give(0,3) give(1,13) give(2,14) give(3,0)";
    private static final String OTHER_DEAL =
            "give(0,4) give(1,5) give(2,12) give(3,1) give(0,13) give(1,3) give(2,0) give(3,14)";
    private static final String ASK = "solve() bestCard()";
    private static final String LOWEST = "lowest";
    private static final String HIGHEST = "highest";
    private static final String TRICK = "trick";
    private static final String[] EVENTS = {
        "begin(-1)", "begin(2)", DEAL, OTHER_DEAL, "start(1)", "start(2)",
        LOWEST, HIGHEST, TRICK, "takeBack()", ASK,
    };

    private final Map<List<String>, String> told = new HashMap<>();
    private final Map<List<String>, List<List<String>>> nextCalls = new HashMap<>();
    private final Map<List<String>, List<String>> refusedCalls = new HashMap<>();

    private AnyOrder() {
    }

    static void testAll() {
        new AnyOrder().explore(new ArrayList<>(), 0);
    }

    private void explore(List<String> history, int events) {
        List<String> straight = straightWay(history);
        if (!told.containsKey(straight)) {
            learn(straight);
        }
        Asker real = Asker.after(history);
        for (String call : refusedCalls.get(straight)) {
            Check.same(call + " behind " + history, real.askText(call), "throws.IllegalStateException");
        }
        Check.same("all behind " + history, tell(real), told.get(straight));
        if (events == MOST_EVENTS) {
            return;
        }
        for (List<String> calls : nextCalls.get(straight)) {
            // To ask twice at once adds nothing.
            if (!history.isEmpty() && calls.get(calls.size() - 1).equals(history.get(history.size() - 1))
                    && calls.get(0).equals("solve()")) {
                continue;
            }
            List<String> longer = new ArrayList<>(history);
            longer.addAll(calls);
            explore(longer, events + 1);
        }
    }

    /** The calls that led here and were not undone by taking back or beginning anew. */
    private static List<String> straightWay(List<String> history) {
        List<String> way = new ArrayList<>();
        for (String call : history) {
            if (call.startsWith("begin")) {
                way.clear();
                way.add(call);
            } else if (call.equals("takeBack()")) {
                way.remove(way.size() - 1);
            } else if (!ASK.contains(call)) {
                way.add(call);
            }
        }
        return way;
    }

    private void learn(List<String> straight) {
        told.put(straight, tell(plainAfter(straight)));
        List<List<String>> next = new ArrayList<>();
        List<String> refused = new ArrayList<>();
        for (String event : EVENTS) {
            List<String> calls = callsOf(event, straight);
            if (calls.isEmpty()) {
                continue;
            }
            boolean goes = !plainAfter(straight).askText(calls.get(0)).startsWith("throws");
            if (goes) {
                next.add(calls);
            } else {
                refused.add(calls.get(0));
            }
        }
        nextCalls.put(straight, next);
        refusedCalls.put(straight, refused);
    }

    private static Asker plainAfter(List<String> history) {
        Asker plain = new Asker(new PlainTricks());
        for (String call : history) {
            plain.askText(call);
        }
        return plain;
    }

    /** An event's calls; none for a play when nothing can be played. */
    private static List<String> callsOf(String event, List<String> straight) {
        List<String> calls = new ArrayList<>();
        Asker plain = plainAfter(straight);
        int plays = event.equals(TRICK) ? PLAYERS : event.equals(LOWEST) || event.equals(HIGHEST) ? 1 : 0;
        if (plays == 0) {
            return List.of(event.split(" "));
        }
        for (int i = 0; i < plays; i++) {
            for (int card = 0; card < CARDS; card++) {
                int tried = event.equals(HIGHEST) ? CARDS - 1 - card : card;
                if (plain.ask("canPlay", tried).equals("true")) {
                    plain.ask("play", tried);
                    calls.add("play(" + tried + ")");
                    break;
                }
            }
        }
        return calls;
    }

    private static String tell(Asker game) {
        StringBuilder text = new StringBuilder();
        for (String call : new String[] {"isStarted", "turn", "inTrick", "solve", "solveByAll", "bestCard", "goodForks"}) {
            text.append(call).append(' ').append(game.ask(call)).append(' ');
        }
        for (int player = 0; player < PLAYERS; player++) {
            for (String call : new String[] {"hand", "cardIn", "won", "unlike", "quick"}) {
                text.append(call).append(' ').append(game.ask(call, player)).append(' ');
            }
            text.append("fork ").append(game.ask("fork", player, 0)).append(' ');
        }
        for (int card : new int[] {0, 1, 3, 4, 5, 12, 13, 14}) {
            for (String call : new String[] {"canPlay", "value", "lowestEqual", "isTop"}) {
                text.append(call).append(' ').append(game.ask(call, card)).append(' ');
            }
        }
        return text.append("begin ").append(game.ask("begin", -1)).toString();
    }
}
