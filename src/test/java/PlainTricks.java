import java.util.ArrayList;
import java.util.HashMap;
import java.util.HashSet;
import java.util.List;
import java.util.Map;
import java.util.Set;
import java.util.TreeSet;

/**
 * The document's words once more, written for plainness alone and unlike OpenTricks: the state is
 * the deal and the list of played cards, all else is told by walking through that list.
 */
final class PlainTricks {
    private int trump = -1;
    private boolean started = false;
    private int firstLeader = 0;
    private List<Set<Integer>> dealt = emptyHands();
    private List<Integer> laid = new ArrayList<>();
    private final Map<String, Integer> found = new HashMap<>();

    private static List<Set<Integer>> emptyHands() {
        List<Set<Integer>> hands = new ArrayList<>();
        for (int player = 0; player < 4; player++) {
            hands.add(new TreeSet<>());
        }
        return hands;
    }

    private static void range(boolean good) {
        if (!good) {
            throw new IllegalArgumentException();
        }
    }

    private static void state(boolean good) {
        if (!good) {
            throw new IllegalStateException();
        }
    }

    private static void player(int p) {
        range(0 <= p && p <= 3);
    }

    private static void card(int c) {
        range(0 <= c && c <= 23);
    }

    public int begin(int newTrump) {
        range(-1 <= newTrump && newTrump <= 3);
        int before = trump;
        trump = newTrump;
        started = false;
        dealt = emptyHands();
        laid = new ArrayList<>();
        found.clear();
        return before;
    }

    public int give(int p, int c) {
        player(p);
        card(c);
        state(!started);
        for (Set<Integer> hand : dealt) {
            state(!hand.contains(c));
        }
        state(dealt.get(p).size() < 4);
        dealt.get(p).add(c);
        return dealt.get(p).size();
    }

    public int start(int leader) {
        player(leader);
        state(!started);
        int size = dealt.get(0).size();
        state(size > 0);
        for (Set<Integer> hand : dealt) {
            state(hand.size() == size);
        }
        started = true;
        firstLeader = leader;
        return size;
    }

    public boolean isStarted() {
        return started;
    }

    private int total() {
        return 4 * dealt.get(0).size();
    }

    private int winnerOf(int leader, List<Integer> trick) {
        int bestPlace = 0;
        for (int place = 1; place < trick.size(); place++) {
            if (strength(trick.get(place), trick.get(0)) > strength(trick.get(bestPlace), trick.get(0))) {
                bestPlace = place;
            }
        }
        return (leader + bestPlace) % 4;
    }

    private int strength(int c, int led) {
        if (c / 6 == trump) {
            return 100 + c % 6;
        }
        return c / 6 == led / 6 ? 50 + c % 6 : 0;
    }

    /** The leader of each trick, that of the one to come too. */
    private List<Integer> leaders() {
        List<Integer> leaders = new ArrayList<>();
        leaders.add(firstLeader);
        for (int from = 0; from + 4 <= laid.size(); from += 4) {
            leaders.add(winnerOf(leaders.get(from / 4), laid.subList(from, from + 4)));
        }
        return leaders;
    }

    private List<Integer> trick() {
        return laid.subList(laid.size() / 4 * 4, laid.size());
    }

    private Set<Integer> cardsOf(int p) {
        Set<Integer> cards = new TreeSet<>(dealt.get(p));
        cards.removeAll(laid);
        return cards;
    }

    public int turn() {
        if (!started || laid.size() == total()) {
            return -1;
        }
        List<Integer> leaders = leaders();
        return (leaders.get(leaders.size() - 1) + trick().size()) % 4;
    }

    public boolean canPlay(int c) {
        card(c);
        int p = turn();
        if (p < 0 || !cardsOf(p).contains(c)) {
            return false;
        }
        if (trick().isEmpty() || c / 6 == trick().get(0) / 6) {
            return true;
        }
        for (int own : cardsOf(p)) {
            if (own / 6 == trick().get(0) / 6) {
                return false;
            }
        }
        return true;
    }

    public int play(int c) {
        card(c);
        state(canPlay(c));
        laid.add(c);
        List<Integer> leaders = leaders();
        return laid.size() % 4 == 0 ? leaders.get(leaders.size() - 1) : -1;
    }

    public int takeBack() {
        state(!laid.isEmpty());
        return laid.remove(laid.size() - 1);
    }

    public int hand(int p) {
        player(p);
        int set = 0;
        for (int c : cardsOf(p)) {
            set += 1 << c;
        }
        return set;
    }

    public int inTrick() {
        return trick().size();
    }

    public int cardIn(int place) {
        if (place < 0 || place >= trick().size()) {
            throw new IndexOutOfBoundsException();
        }
        return trick().get(place);
    }

    public int won(int side) {
        range(side == 0 || side == 1);
        List<Integer> leaders = leaders();
        int count = 0;
        for (int winner : leaders.subList(1, leaders.size())) {
            count += winner % 2 == side ? 1 : 0;
        }
        return count;
    }

    public int solve() {
        state(started);
        int p = turn();
        if (p < 0) {
            return 0;
        }
        // Between tricks only the set of played cards and the leader matter, not their order.
        String position = new TreeSet<>(laid) + " " + p;
        boolean keep = trick().isEmpty();
        if (keep && found.containsKey(position)) {
            return found.get(position);
        }
        int best = p % 2 == 0 ? -1 : 5;
        for (int c : cardsOf(p)) {
            if (canPlay(c)) {
                int winner = play(c);
                int tricks = (winner == 0 || winner == 2 ? 1 : 0) + solve();
                takeBack();
                best = p % 2 == 0 ? Math.max(best, tricks) : Math.min(best, tricks);
            }
        }
        if (keep) {
            found.put(position, best);
        }
        return best;
    }

    public int solveByAll() {
        state(started && total() - laid.size() <= 12);
        return solve();
    }

    public int value(int c) {
        card(c);
        state(canPlay(c));
        int p = turn();
        int before = won(p % 2);
        play(c);
        int tricksToCome = (total() - laid.size() + 3) / 4;
        int rest = p % 2 == 0 ? solve() : tricksToCome - solve();
        int answer = won(p % 2) - before + rest;
        takeBack();
        return answer;
    }

    public int bestCard() {
        state(turn() >= 0);
        int best = -1;
        for (int c = 23; c >= 0; c--) {
            if (canPlay(c) && (best < 0 || value(c) >= value(best))) {
                best = c;
            }
        }
        return best;
    }

    private int ownerOf(int c) {
        for (int p = 0; p < 4; p++) {
            if (cardsOf(p).contains(c)) {
                return p;
            }
        }
        return -1;
    }

    private boolean isOut(int c) {
        return ownerOf(c) < 0 && !trick().contains(c);
    }

    private boolean equalCards(int a, int b) {
        if (a / 6 != b / 6) {
            return false;
        }
        for (int c = Math.min(a, b) + 1; c < Math.max(a, b); c++) {
            if (!cardsOf(ownerOf(a)).contains(c) && !isOut(c)) {
                return false;
            }
        }
        return true;
    }

    public int lowestEqual(int c) {
        card(c);
        state(ownerOf(c) >= 0);
        for (int other : cardsOf(ownerOf(c))) {
            if (equalCards(other, c)) {
                return other;
            }
        }
        return c;
    }

    public int unlike(int p) {
        player(p);
        Set<Integer> lowest = new HashSet<>();
        for (int c : cardsOf(p)) {
            lowest.add(lowestEqual(c));
        }
        return lowest.size();
    }

    public boolean isTop(int c) {
        card(c);
        state(ownerOf(c) >= 0);
        for (int higher = c + 1; higher < c / 6 * 6 + 6; higher++) {
            boolean elsewhere = ownerOf(higher) >= 0 && ownerOf(higher) != ownerOf(c);
            if (elsewhere || trick().contains(higher)) {
                return false;
            }
        }
        return true;
    }

    public int quick(int p) {
        player(p);
        int count = 0;
        for (int c : cardsOf(p)) {
            count += isTop(c) ? 1 : 0;
        }
        return count;
    }

    public int fork(int p, int suit) {
        player(p);
        range(0 <= suit && suit <= 3);
        List<Integer> owners = new ArrayList<>();
        for (int c = suit * 6 + 5; c >= suit * 6; c--) {
            if (ownerOf(c) >= 0) {
                owners.add(ownerOf(c));
            }
        }
        if (owners.size() < 3 || owners.get(0) != p || owners.get(2) != p) {
            return 0;
        }
        if (owners.get(1) == (p + 3) % 4) {
            return 2;
        }
        return owners.get(1) == (p + 1) % 4 ? 1 : 0;
    }

    public int goodForks() {
        int sum = 0;
        for (int p = 0; p < 4; p++) {
            for (int suit = 0; suit < 4; suit++) {
                if (fork(p, suit) == 2) {
                    sum += p % 2 == 0 ? 1 : -1;
                }
            }
        }
        return sum;
    }
}
