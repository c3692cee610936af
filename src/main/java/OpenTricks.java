/**
 * A game of tricks with open cards: it deals, plays and takes back, and tells
 * what the sides can still win.
 *
 * The face checks what it is given and throws; Game holds the state, Solver
 * searches on it, Kept remembers what the search found, Cards and Look only read.
 */
public final class OpenTricks {
    private final Game game;
    private final Solver solver;
    private final Look look;

    public OpenTricks() {
        game = new Game();
        solver = new Solver(game);
        look = new Look(game);
    }

    // ---- dealing

    public int begin(int trump) throws IllegalArgumentException {
        if (trump < Cards.NONE || trump >= Cards.SUITS) {
            throw new IllegalArgumentException("trump is out of range");
        }
        return game.clearFor(trump);
    }

    public int give(int player, int card) throws IllegalArgumentException, IllegalStateException {
        needPlayer(player);
        needCard(card);
        if (!game.canDeal(player, card)) {
            throw new IllegalStateException("the card cannot be given");
        }
        return game.deal(player, card);
    }

    public int start(int leader) throws IllegalArgumentException, IllegalStateException {
        needPlayer(leader);
        if (!game.canOpen()) {
            throw new IllegalStateException("the game cannot be started");
        }
        solver.forget();
        return game.open(leader);
    }

    public boolean isStarted() {
        return game.isOpen();
    }

    // ---- playing

    public int play(int card) throws IllegalArgumentException, IllegalStateException {
        needCard(card);
        needPlayable(card);
        return game.lay(card);
    }

    public int takeBack() throws IllegalStateException {
        if (game.laidCount() == 0) {
            throw new IllegalStateException("no card has been played");
        }
        return game.lift();
    }

    public boolean canPlay(int card) throws IllegalArgumentException {
        needCard(card);
        return Cards.holds(game.playable(), card);
    }

    public int turn() {
        return game.mover();
    }

    public int hand(int player) throws IllegalArgumentException {
        needPlayer(player);
        return game.handOf(player);
    }

    public int inTrick() {
        return game.trickSize();
    }

    public int cardIn(int place) throws IndexOutOfBoundsException {
        if (place < 0 || place >= game.trickSize()) {
            throw new IndexOutOfBoundsException("no such card in the trick");
        }
        return game.trickCard(place);
    }

    public int won(int side) throws IllegalArgumentException {
        if (side < 0 || side >= Cards.SIDES) {
            throw new IllegalArgumentException("side is out of range");
        }
        return game.tricksOf(side);
    }

    // ---- solving

    public int solve() throws IllegalStateException {
        needStarted();
        return solver.mostOfSide0();
    }

    public int solveByAll() throws IllegalStateException {
        needStarted();
        if (game.cardsLeft() > Cards.MOST_BY_ALL) {
            throw new IllegalStateException("too many cards are in hands");
        }
        return Solver.byAllPlays(game, game.cardsLeft());
    }

    public int value(int card) throws IllegalArgumentException, IllegalStateException {
        needCard(card);
        needPlayable(card);
        return solver.worthOf(card);
    }

    public int bestCard() throws IllegalStateException {
        if (game.mover() == Cards.NONE) {
            throw new IllegalStateException("it is nobody's turn");
        }
        return solver.bestPlay();
    }

    // ---- cards

    public int lowestEqual(int card) throws IllegalArgumentException, IllegalStateException {
        needCard(card);
        needInHand(card);
        return look.lowestLike(card);
    }

    public int unlike(int player) throws IllegalArgumentException {
        needPlayer(player);
        return Integer.bitCount(Cards.lowestOfEquals(game.handOf(player), game.out()));
    }

    public boolean isTop(int card) throws IllegalArgumentException, IllegalStateException {
        needCard(card);
        needInHand(card);
        return look.isHighest(card, game.ownerOf(card));
    }

    public int quick(int player) throws IllegalArgumentException {
        needPlayer(player);
        return look.quickTricks(player);
    }

    public int fork(int player, int suit) throws IllegalArgumentException {
        needPlayer(player);
        if (suit < 0 || suit >= Cards.SUITS) {
            throw new IllegalArgumentException("suit is out of range");
        }
        return look.forkKind(player, suit);
    }

    public int goodForks() {
        return look.goodForksOf(0) - look.goodForksOf(1);
    }

    // ---- what the calls need

    private static void needPlayer(int player) throws IllegalArgumentException {
        if (player < 0 || player >= Cards.PLAYERS) {
            throw new IllegalArgumentException("player is out of range");
        }
    }

    private static void needCard(int card) throws IllegalArgumentException {
        if (card < 0 || card >= Cards.COUNT) {
            throw new IllegalArgumentException("card is out of range");
        }
    }

    private void needPlayable(int card) throws IllegalStateException {
        if (!Cards.holds(game.playable(), card)) {
            throw new IllegalStateException("the card cannot be played");
        }
    }

    private void needStarted() throws IllegalStateException {
        if (!game.isOpen()) {
            throw new IllegalStateException("the game was not started");
        }
    }

    private void needInHand(int card) throws IllegalStateException {
        if (game.ownerOf(card) == Cards.NONE) {
            throw new IllegalStateException("the card is in no hand");
        }
    }

    /** The numbers of the game, and what cards and sets of cards tell by themselves. */
    private static final class Cards {
        static final int NONE = -1;
        static final int SUITS = 4;
        static final int RANKS = 6;
        static final int COUNT = 24;
        static final int PLAYERS = 4;
        static final int SIDES = 2;
        static final int HAND_SIZE = 4;
        static final int MOST_BY_ALL = 12;
        static final int ALL = (1 << COUNT) - 1;

        private Cards() {
        }

        static boolean holds(int set, int card) {
            return (set & 1 << card) != 0;
        }

        static int suitOf(int card) {
            return card / RANKS;
        }

        static int suitSet(int suit) {
            return ((1 << RANKS) - 1) << (suit * RANKS);
        }

        /** The lowest card of a set, 32 of an empty one. */
        static int lowest(int set) {
            return Integer.numberOfTrailingZeros(set);
        }

        /** The highest card of a set, NONE of an empty one. */
        static int highest(int set) {
            return 31 - Integer.numberOfLeadingZeros(set);
        }

        static int sideOf(int player) {
            return player % SIDES;
        }

        /** The nearest card below that is equal to a card of a hand, NONE if there is none. */
        static int equalBelow(int card, int hand, int out) {
            int first = suitOf(card) * RANKS;
            for (int below = card - 1; below >= first; below--) {
                if (holds(hand, below)) {
                    return below;
                }
                if (!holds(out, below)) {
                    return NONE;
                }
            }
            return NONE;
        }

        /** Of some cards of one hand the lowest of each kind of equal ones, as a set. */
        static int lowestOfEquals(int hand, int out) {
            int lowestOnes = 0;
            int left = hand;
            for (int seen = 0; seen < HAND_SIZE && left != 0; seen++) {
                int card = lowest(left);
                left &= ~(1 << card);
                if (equalBelow(card, hand, out) == NONE) {
                    lowestOnes |= 1 << card;
                }
            }
            return lowestOnes;
        }
    }

    /** The state: who holds what, and all cards that were played, in their order. */
    private static final class Game {
        private final int[] hands;
        private final int[] laid;
        private final int[] leaders;
        private int trump;
        private int given;
        private boolean open;
        private int tricks;
        private int laidCount;

        Game() {
            hands = new int[Cards.PLAYERS];
            laid = new int[Cards.PLAYERS * Cards.HAND_SIZE];
            // One more than tricks: the winner of the last one is kept as if to lead again.
            leaders = new int[Cards.HAND_SIZE + 1];
            trump = Cards.NONE;
        }

        int clearFor(int newTrump) {
            int before = trump;
            trump = newTrump;
            for (int player = 0; player < hands.length; player++) {
                hands[player] = 0;
            }
            given = 0;
            open = false;
            tricks = 0;
            laidCount = 0;
            return before;
        }

        boolean canDeal(int player, int card) {
            return !open && !Cards.holds(given, card)
                    && Integer.bitCount(handOf(player)) < Cards.HAND_SIZE;
        }

        int deal(int player, int card) {
            given |= 1 << card;
            addTo(player, card);
            return Integer.bitCount(handOf(player));
        }

        boolean canOpen() {
            int size = Integer.bitCount(handOf(0));
            if (open || size == 0) {
                return false;
            }
            for (int player = 1; player < Cards.PLAYERS; player++) {
                if (Integer.bitCount(handOf(player)) != size) {
                    return false;
                }
            }
            return true;
        }

        int open(int leader) {
            open = true;
            tricks = Integer.bitCount(handOf(0));
            leaders[0] = leader;
            return tricks;
        }

        boolean isOpen() {
            return open;
        }

        int laidCount() {
            return laidCount;
        }

        int cardsLeft() {
            return tricks * Cards.PLAYERS - laidCount;
        }

        int tricksLeft() {
            return tricks - tricksOver();
        }

        private int tricksOver() {
            return laidCount / Cards.PLAYERS;
        }

        int trickSize() {
            return laidCount % Cards.PLAYERS;
        }

        /** Whose turn it is, NONE ahead of the start and when all cards have been played. */
        int mover() {
            if (!open || cardsLeft() <= 0) {
                return Cards.NONE;
            }
            return (leaderOf(tricksOver()) + trickSize()) % Cards.PLAYERS;
        }

        private int leaderOf(int trick) {
            return trick >= 0 && trick < leaders.length ? leaders[trick] : 0;
        }

        private int laidAt(int index) {
            return index >= 0 && index < laid.length ? laid[index] : 0;
        }

        int handOf(int player) {
            return player >= 0 && player < hands.length ? hands[player] : 0;
        }

        private void addTo(int player, int card) {
            if (player >= 0 && player < hands.length) {
                hands[player] |= 1 << card;
            }
        }

        private void dropFrom(int player, int card) {
            if (player >= 0 && player < hands.length) {
                hands[player] &= ~(1 << card);
            }
        }

        int trickCard(int place) {
            return laidAt(laidCount - trickSize() + place);
        }

        /** The cards that can be played now, as a set. */
        int playable() {
            int own = handOf(mover());
            if (trickSize() == 0) {
                return own;
            }
            int following = own & Cards.suitSet(Cards.suitOf(trickCard(0)));
            return following == 0 ? own : following;
        }

        /** Plays a card that is playable; the winner if that ends the trick, otherwise NONE. */
        int lay(int card) {
            if (laidCount < 0 || laidCount >= laid.length) {
                return Cards.NONE;
            }
            dropFrom(mover(), card);
            laid[laidCount] = card;
            laidCount++;
            if (trickSize() != 0) {
                return Cards.NONE;
            }
            return endTrick();
        }

        private int endTrick() {
            int first = laidCount - Cards.PLAYERS;
            int place = 0;
            for (int next = 1; next < Cards.PLAYERS; next++) {
                if (beats(laidAt(first + next), laidAt(first + place))) {
                    place = next;
                }
            }
            int over = tricksOver();
            int winner = (leaderOf(over - 1) + place) % Cards.PLAYERS;
            if (over >= 0 && over < leaders.length) {
                leaders[over] = winner;
            }
            return winner;
        }

        private boolean beats(int later, int best) {
            int suit = later / Cards.RANKS;
            return suit == best / Cards.RANKS ? later > best : suit == trump;
        }

        /** Takes the latest card back; NONE if there is none. */
        int lift() {
            if (laidCount <= 0) {
                return Cards.NONE;
            }
            laidCount--;
            int card = laidAt(laidCount);
            addTo(mover(), card);
            return card;
        }

        int tricksOf(int side) {
            int count = 0;
            for (int trick = 1; trick <= tricksOver(); trick++) {
                if (Cards.sideOf(leaderOf(trick)) == side) {
                    count++;
                }
            }
            return count;
        }

        int inHands() {
            int all = 0;
            for (int player = 0; player < hands.length; player++) {
                all |= hands[player];
            }
            return all;
        }

        int inTrickSet() {
            int set = 0;
            for (int index = laidCount - trickSize(); index < laidCount; index++) {
                set |= 1 << laidAt(index);
            }
            return set;
        }

        int out() {
            return Cards.ALL & ~(inHands() | inTrickSet());
        }

        int ownerOf(int card) {
            for (int player = 0; player < hands.length; player++) {
                if (Cards.holds(hands[player], card)) {
                    return player;
                }
            }
            return Cards.NONE;
        }

        /** Names the position between two tricks of one deal, in 26 bits; not 0 while cards are left. */
        int betweenTricks() {
            return inHands() | leaderOf(tricksOver()) << Cards.COUNT;
        }
    }

    /** What a look at the cards tells: equal ones, tops and forks. */
    private static final class Look {
        private static final int NO_FORK = 0;
        private static final int BAD_FORK = 1;
        private static final int GOOD_FORK = 2;

        private final Game game;

        Look(Game game) {
            this.game = game;
        }

        int lowestLike(int card) {
            int own = game.handOf(game.ownerOf(card));
            int out = game.out();
            int low = card;
            for (int step = 0; step < Cards.RANKS; step++) {
                int below = Cards.equalBelow(low, own, out);
                if (below == Cards.NONE) {
                    return low;
                }
                low = below;
            }
            return low;
        }

        boolean isHighest(int card, int owner) {
            int against = (game.inHands() & ~game.handOf(owner)) | game.inTrickSet();
            return Cards.highest(against & Cards.suitSet(Cards.suitOf(card))) < card;
        }

        int quickTricks(int player) {
            int own = game.handOf(player);
            int count = 0;
            for (int card = 0; card < Cards.COUNT; card++) {
                if (Cards.holds(own, card) && isHighest(card, player)) {
                    count++;
                }
            }
            return count;
        }

        int forkKind(int player, int suit) {
            int inSuit = game.inHands() & Cards.suitSet(suit);
            if (Integer.bitCount(inSuit) < 3) {
                return NO_FORK;
            }
            int first = Cards.highest(inSuit);
            int second = Cards.highest(inSuit & ~(1 << first));
            int third = Cards.highest(inSuit & ~(1 << first) & ~(1 << second));
            int between = game.ownerOf(second);
            if (game.ownerOf(first) != player || game.ownerOf(third) != player
                    || Cards.sideOf(between) == Cards.sideOf(player)) {
                return NO_FORK;
            }
            return (between + 1) % Cards.PLAYERS == player ? GOOD_FORK : BAD_FORK;
        }

        int goodForksOf(int side) {
            int count = 0;
            for (int player = side; player < Cards.PLAYERS; player += Cards.SIDES) {
                for (int suit = 0; suit < Cards.SUITS; suit++) {
                    if (forkKind(player, suit) == GOOD_FORK) {
                        count++;
                    }
                }
            }
            return count;
        }
    }

    /** Plays on in the game itself and takes each card back, so that it leaves no trace. */
    private static final class Solver {
        private final Game game;
        private final Kept kept;

        Solver(Game game) {
            this.game = game;
            kept = new Kept();
        }

        /** What was kept holds for one deal only. */
        void forget() {
            kept.clear();
        }

        int mostOfSide0() {
            // At the ends of the window nothing is lost: no side wins less than 0 or more than all.
            return search(game.cardsLeft(), 0, game.tricksLeft());
        }

        int worthOf(int card) {
            int tricks = game.tricksLeft();
            int side = Cards.sideOf(game.mover());
            int gain = gainOf(game.lay(card));
            int ofSide0 = gain + search(game.cardsLeft(), 0, tricks);
            game.lift();
            return side == 0 ? ofSide0 : tricks - ofSide0;
        }

        int bestPlay() {
            int left = Cards.lowestOfEquals(game.playable(), game.out());
            int best = Cards.NONE;
            int most = -1;
            for (int tried = 0; tried < Cards.HAND_SIZE && left != 0; tried++) {
                int card = Cards.lowest(left);
                left &= ~(1 << card);
                int worth = worthOf(card);
                if (worth > most) {
                    most = worth;
                    best = card;
                }
            }
            return best;
        }

        private static int gainOf(int winner) {
            return winner != Cards.NONE && Cards.sideOf(winner) == 0 ? 1 : 0;
        }

        /**
         * How many tricks the side 0 can win with cardsLeft cards in hands: exact between
         * low and high; at or beyond them only that it is no more, or no less.
         */
        private int search(int cardsLeft, int low, int high) {
            if (cardsLeft <= 0) {
                return 0;
            }
            if (game.trickSize() != 0) {
                return tryPlays(cardsLeft, low, high);
            }
            int position = game.betweenTricks();
            int least = kept.leastAt(position);
            int most = kept.mostAt(position, cardsLeft / Cards.PLAYERS);
            if (least >= high || least == most) {
                return least;
            }
            if (most <= low) {
                return most;
            }
            int from = Math.max(low, least);
            int to = Math.min(high, most);
            int found = tryPlays(cardsLeft, from, to);
            kept.put(position, found > from ? found : least, found < to ? found : most);
            return found;
        }

        private int tryPlays(int cardsLeft, int low, int high) {
            boolean wantsMore = Cards.sideOf(game.mover()) == 0;
            int left = Cards.lowestOfEquals(game.playable(), game.out());
            int from = low;
            int to = high;
            int best = wantsMore ? -1 : Cards.HAND_SIZE + 1;
            for (int tried = 0; tried < Cards.HAND_SIZE && left != 0 && from < to; tried++) {
                int card = Cards.highest(left);
                left &= ~(1 << card);
                int gain = gainOf(game.lay(card));
                int found = gain + search(cardsLeft - 1, from - gain, to - gain);
                game.lift();
                if (wantsMore) {
                    best = Math.max(best, found);
                    from = Math.max(from, best);
                } else {
                    best = Math.min(best, found);
                    to = Math.min(to, best);
                }
            }
            return best;
        }

        /** The same by all plays, with nothing left out and nothing kept. */
        private static int byAllPlays(Game game, int cardsLeft) {
            if (cardsLeft <= 0) {
                return 0;
            }
            boolean wantsMore = Cards.sideOf(game.mover()) == 0;
            int left = game.playable();
            int best = wantsMore ? -1 : Cards.HAND_SIZE + 1;
            for (int tried = 0; tried < Cards.HAND_SIZE && left != 0; tried++) {
                int card = Cards.lowest(left);
                left &= ~(1 << card);
                int found = gainOf(game.lay(card)) + byAllPlays(game, cardsLeft - 1);
                game.lift();
                best = wantsMore ? Math.max(best, found) : Math.min(best, found);
            }
            return best;
        }
    }

    /**
     * What the search found of positions between two tricks: at least and at most so many
     * tricks for the side 0. A later position may take the place of an earlier one: that
     * costs time, never truth, and so the size stays fixed.
     */
    private static final class Kept {
        private static final int SIZE_BITS = 10;
        private static final int SCATTER = 0x9E3779B1;
        private static final int TRICK_BITS = 3;
        private static final int TRICK_MASK = (1 << TRICK_BITS) - 1;
        private static final int EMPTY = 0;

        // An entry is a position, then the most, then the least: one row instead of three.
        private final int[] entries;

        Kept() {
            entries = new int[1 << SIZE_BITS];
        }

        void clear() {
            for (int slot = 0; slot < entries.length; slot++) {
                entries[slot] = EMPTY;
            }
        }

        int leastAt(int position) {
            return entryOf(position) & TRICK_MASK;
        }

        int mostAt(int position, int ifUnknown) {
            int entry = entryOf(position);
            return entry == EMPTY ? ifUnknown : entry >>> TRICK_BITS & TRICK_MASK;
        }

        void put(int position, int least, int most) {
            int slot = slotOf(position);
            if (slot >= 0 && slot < entries.length) {
                entries[slot] = position << 2 * TRICK_BITS | most << TRICK_BITS | least;
            }
        }

        private int entryOf(int position) {
            int slot = slotOf(position);
            if (slot < 0 || slot >= entries.length) {
                return EMPTY;
            }
            int entry = entries[slot];
            return entry >>> 2 * TRICK_BITS == position ? entry : EMPTY;
        }

        private static int slotOf(int position) {
            return (position * SCATTER) >>> (32 - SIZE_BITS);
        }
    }
}
