import java.util.ArrayList;
import java.util.List;

/**
 * All that an object could answer from now on, told by fresh objects that came the same way. Two
 * ways that tell alike have left the same state: the hands, the trump, the leader, the cards that
 * were given, and what was played in which order.
 */
final class Future {
    private static final int CARDS = 24;
    private static final int PLAYERS = 4;
    private static final int MOST_LAID = 16;

    private final List<String> told = new ArrayList<>();
    private Asker asker;

    private Future() {
    }

    static List<String> of(List<String> history) {
        Future future = new Future();
        // Each chapter asks an object of its own: an earlier question could wipe out a difference.
        future.asker = Asker.after(history);
        future.tellState();
        future.tellBackwards();
        future.tell("begin", -1);
        future.asker = Asker.after(history);
        future.tellOpinions();
        future.asker = Asker.after(history);
        future.tellGifts();
        future.asker = Asker.after(history);
        future.tell("start", 0);
        future.tell("turn");
        future.tell("begin", -1);
        return future.told;
    }

    /** The first answer in which they differ, or nothing. */
    static String difference(List<String> one, List<String> other) {
        for (int i = 0; i < one.size() && i < other.size(); i++) {
            if (!one.get(i).equals(other.get(i))) {
                return one.get(i) + " for " + other.get(i);
            }
        }
        return one.size() == other.size() ? "" : one.size() + " answers for " + other.size();
    }

    private String tell(String call, int... arguments) {
        String answer = asker.ask(call, arguments);
        StringBuilder line = new StringBuilder(call);
        for (int argument : arguments) {
            line.append(' ').append(argument);
        }
        told.add(line + " -> " + answer);
        return answer;
    }

    private void tellEach(String call, int bound) {
        for (int argument = 0; argument < bound; argument++) {
            tell(call, argument);
        }
    }

    private void tellState() {
        tell("isStarted");
        tell("turn");
        tell("inTrick");
        tellEach("hand", PLAYERS);
        tellEach("cardIn", PLAYERS);
        tellEach("won", 2);
    }

    private void tellOpinions() {
        tell("solve");
        tell("solveByAll");
        tell("bestCard");
        tell("goodForks");
        tellEach("canPlay", CARDS);
        tellEach("value", CARDS);
        tellEach("lowestEqual", CARDS);
        tellEach("isTop", CARDS);
        tellEach("unlike", PLAYERS);
        tellEach("quick", PLAYERS);
        for (int player = 0; player < PLAYERS; player++) {
            for (int suit = 0; suit < PLAYERS; suit++) {
                tell("fork", player, suit);
            }
        }
    }

    private void tellBackwards() {
        for (int taken = 0; taken <= MOST_LAID; taken++) {
            if (tell("takeBack").startsWith("throws")) {
                return;
            }
            tell("turn");
            tell("inTrick");
            tellEach("hand", PLAYERS);
            tellEach("won", 2);
        }
    }

    private void tellGifts() {
        for (int card = 0; card < CARDS; card++) {
            for (int player = 0; player < PLAYERS; player++) {
                tell("give", player, card);
            }
        }
    }
}
