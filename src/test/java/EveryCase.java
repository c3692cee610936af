import java.util.Arrays;

/** Sentences of the document that speak of all cards, suits, players or hands, tried in every case. */
final class EveryCase {
    private static final int CARDS = 24;
    private static final int PLAYERS = 4;
    private static final int SUITS = 4;
    private static final int RANKS = 6;

    private EveryCase() {
    }

    static void testAll() {
        testBits();
        testTrumpsBefore();
        testSizesOfHands();
        testTwoCardsInATrick();
        testPlacesOfTheWinner();
        testFollowing();
        testFourCards();
        testSuitInHands();
        testTwoObjects();
        testLongUse();
    }

    private static void same(String what, Object got, Object due) {
        Check.same(what, String.valueOf(got), String.valueOf(due));
    }

    /** "1 for the card 0, 2 for the card 1, and so on", in each hand. */
    private static void testBits() {
        for (int card = 0; card < CARDS; card++) {
            for (int player = 0; player < PLAYERS; player++) {
                Asker game = new Asker(new OpenTricks());
                game.ask("give", player, card);
                for (int other = 0; other < PLAYERS; other++) {
                    long due = other == player ? Math.round(Math.pow(2, card)) : 0;
                    same("hand " + other + " when " + player + " has " + card, game.ask("hand", other), due);
                }
            }
        }
    }

    /** "Returns the trump suit before", each behind each. */
    private static void testTrumpsBefore() {
        for (int before = -1; before < SUITS; before++) {
            for (int next = -1; next < SUITS; next++) {
                Asker game = new Asker(new OpenTricks());
                game.ask("begin", before);
                same("begin " + next + " behind " + before, game.ask("begin", next), before);
            }
        }
    }

    /** "all hands must have as many cards, 1 to 4": all 625 ways to deal 0 to 4 to each. */
    private static void testSizesOfHands() {
        for (int way = 0; way < 5 * 5 * 5 * 5; way++) {
            int[] sizes = {way % 5, way / 5 % 5, way / 25 % 5, way / 125};
            boolean alike = sizes[0] == sizes[1] && sizes[1] == sizes[2] && sizes[2] == sizes[3];
            Asker game = new Asker(new OpenTricks());
            for (int player = 0; player < PLAYERS; player++) {
                for (int i = 0; i < sizes[player]; i++) {
                    game.ask("give", player, player * RANKS + i);
                }
            }
            String due = alike && sizes[0] > 0 ? String.valueOf(sizes[0]) : "throws.IllegalStateException";
            same("start with " + Arrays.toString(sizes), game.ask("start", way % PLAYERS), due);
            same("isStarted with " + Arrays.toString(sizes), game.ask("isStarted"), !due.startsWith("throws"));
        }
    }

    private static void oneEach(Asker game, int leader, int... cards) {
        for (int place = 0; place < PLAYERS; place++) {
            game.ask("give", (leader + place) % PLAYERS, cards[place]);
        }
        game.ask("start", leader);
    }

    /** A card that neither has the suit led nor is a trump, nor is one of these two. */
    private static int loser(int trump, int led, int other, int notThis) {
        for (int card = 0; card < CARDS; card++) {
            int suit = card / RANKS;
            if (suit != trump && suit != led / RANKS && card != other && card != notThis) {
                return card;
            }
        }
        throw new AssertionError("there is no such card");
    }

    /** Which of two cards wins, for every trump; the other one lies at each place behind the leader. */
    private static void testTwoCardsInATrick() {
        for (int trump = -1; trump < SUITS; trump++) {
            for (int led = 0; led < CARDS; led++) {
                for (int other = 0; other < CARDS; other++) {
                    if (other != led) {
                        testTwoCards(trump, led, other);
                    }
                }
            }
        }
    }

    private static void testTwoCards(int trump, int led, int other) {
        int place = 1 + (led + other) % 3;
        int leader = (led + trump + 1) % PLAYERS;
        int one = loser(trump, led, other, -1);
        int[] cards = {led, one, one, one};
        cards[place] = other;
        cards[place == 3 ? 2 : 3] = loser(trump, led, other, one);
        boolean otherWins = other / RANKS == led / RANKS ? other > led : other / RANKS == trump;
        int winner = (leader + (otherWins ? place : 0)) % PLAYERS;
        int forSide0 = winner % 2 == 0 ? 1 : 0;
        String what = "trump " + trump + ", leader " + leader + ", cards " + Arrays.toString(cards) + ", ";

        Asker game = new Asker(new OpenTricks());
        game.ask("begin", trump);
        oneEach(game, leader, cards);
        same(what + "solve", game.ask("solve"), forSide0);
        same(what + "solveByAll", game.ask("solveByAll"), forSide0);
        for (int i = 0; i < PLAYERS; i++) {
            int side = (leader + i) % 2;
            same(what + "value at " + i, game.ask("value", cards[i]), side == 0 ? forSide0 : 1 - forSide0);
            same(what + "play at " + i, game.ask("play", cards[i]), i == 3 ? winner : -1);
        }
        same(what + "won", game.ask("won", 0) + " " + game.ask("won", 1), forSide0 + " " + (1 - forSide0));
    }

    /** Every leader and every place of the winner, by the suit led or by a trump: the winner leads next. */
    private static void testPlacesOfTheWinner() {
        for (int leader = 0; leader < PLAYERS; leader++) {
            for (int place = 0; place < PLAYERS; place++) {
                for (int trump = -1; trump < SUITS; trump += 4) {
                    testPlace(leader, place, trump);
                }
            }
        }
    }

    /** In the suit 0 the rank 5 wins; or, if the suit 3 is trump, a low trump does. */
    private static void testPlace(int leader, int place, int trump) {
        int[] first = {1, 2, 3, 4};
        first[place] = trump == 3 ? 18 : 5;
        Asker game = new Asker(new OpenTricks());
        game.ask("begin", trump);
        for (int i = 0; i < PLAYERS; i++) {
            game.ask("give", (leader + i) % PLAYERS, first[i]);
            game.ask("give", (leader + i) % PLAYERS, 6 + i);
        }
        String what = "leader " + leader + ", winner at " + place + ", trump " + trump + ", ";
        same(what + "start", game.ask("start", leader), 2);
        int winner = (leader + place) % PLAYERS;
        for (int i = 0; i < PLAYERS; i++) {
            same(what + "turn at " + i, game.ask("turn"), (leader + i) % PLAYERS);
            same(what + "play at " + i, game.ask("play", first[i]), i == 3 ? winner : -1);
        }
        for (int i = 0; i < PLAYERS; i++) {
            int player = (winner + i) % PLAYERS;
            same(what + "turn in the next trick", game.ask("turn"), player);
            game.ask("play", 6 + (player - leader + PLAYERS) % PLAYERS);
        }
        same(what + "turn at the end", game.ask("turn"), -1);
    }

    /** "a player who has a card of the suit that was led must play one of these": for every three cards. */
    private static void testFollowing() {
        for (int led = 0; led < CARDS; led++) {
            for (int card = 0; card < CARDS; card++) {
                for (int beside = 0; beside < CARDS; beside++) {
                    if (led != card && led != beside && card != beside) {
                        testFollowing(led, card, beside);
                    }
                }
            }
        }
    }

    private static void testFollowing(int led, int card, int beside) {
        Asker game = new Asker(new OpenTricks());
        game.ask("begin", (led + card + beside) % 5 - 1);
        int leader = (card + beside) % PLAYERS;
        int next = (leader + 1) % PLAYERS;
        game.ask("give", leader, led);
        game.ask("give", next, card);
        game.ask("give", next, beside);
        int filled = 0;
        for (int other = 0; other < CARDS && filled < 5; other++) {
            if (other != led && other != card && other != beside) {
                game.ask("give", (leader + (filled == 0 ? 0 : filled < 3 ? 2 : 3)) % PLAYERS, other);
                filled++;
            }
        }
        game.ask("start", leader);
        game.ask("play", led);
        boolean due = card / RANKS == led / RANKS || beside / RANKS != led / RANKS;
        same("canPlay " + card + " beside " + beside + " behind " + led, game.ask("canPlay", card), due);
    }

    /** All ways to choose four cards: who wins, and that solve knows nothing of the deal before, of the same cards. */
    private static void testFourCards() {
        for (int a = 0; a < CARDS; a++) {
            for (int b = a + 1; b < CARDS; b++) {
                for (int c = b + 1; c < CARDS; c++) {
                    for (int d = c + 1; d < CARDS; d++) {
                        testFourCards(a, b, c, d);
                    }
                }
            }
        }
    }

    private static void testFourCards(int... cards) {
        int sum = cards[0] + cards[1] + cards[2] + cards[3];
        int trump = sum % 5 - 1;
        int leader = sum % PLAYERS;
        Asker game = new Asker(new OpenTricks());
        for (int turned = 0; turned < PLAYERS; turned++) {
            int[] played = new int[PLAYERS];
            for (int i = 0; i < PLAYERS; i++) {
                played[i] = cards[(i + turned) % PLAYERS];
            }
            String what = "trump " + trump + ", leader " + leader + ", cards " + Arrays.toString(played) + ", ";
            game.ask("begin", trump);
            oneEach(game, leader, played);
            int winner = (leader + winningPlace(played, trump)) % PLAYERS;
            same(what + "solve", game.ask("solve"), winner % 2 == 0 ? 1 : 0);
            for (int i = 0; i < PLAYERS; i++) {
                same(what + "play at " + i, game.ask("play", played[i]), i == 3 ? winner : -1);
            }
        }
    }

    private static int winningPlace(int[] played, int trump) {
        boolean trumped = Arrays.stream(played).anyMatch(card -> card / RANKS == trump);
        int suit = trumped ? trump : played[0] / RANKS;
        int best = -1;
        for (int i = 0; i < PLAYERS; i++) {
            if (played[i] / RANKS == suit && (best < 0 || played[i] > played[best])) {
                best = i;
            }
        }
        return best;
    }

    /** All ways in which the cards of a suit can lie in the four hands or not be dealt, asked of the plain model. */
    private static void testSuitInHands() {
        int ways = 5 * 5 * 5 * 5 * 5 * 5;
        for (int way = 0; way < ways; way++) {
            Asker real = new Asker(new OpenTricks());
            Asker plain = new Asker(new PlainTricks());
            int suit = way % SUITS;
            int left = way;
            for (int card = suit * RANKS; card < (suit + 1) * RANKS; card++) {
                if (left % 5 < PLAYERS) {
                    real.ask("give", left % 5, card);
                    plain.ask("give", left % 5, card);
                }
                left /= 5;
            }
            same("way " + way + " of suit " + suit, told(real, suit), told(plain, suit));
        }
    }

    private static String told(Asker game, int suit) {
        StringBuilder text = new StringBuilder();
        for (int player = 0; player < PLAYERS; player++) {
            text.append(game.ask("hand", player)).append(' ').append(game.ask("unlike", player)).append(' ')
                    .append(game.ask("quick", player)).append(' ').append(game.ask("fork", player, suit)).append(' ');
        }
        for (int card = suit * RANKS; card < (suit + 1) * RANKS; card++) {
            text.append(game.ask("lowestEqual", card)).append(' ').append(game.ask("isTop", card)).append(' ');
        }
        return text.append(game.ask("goodForks")).toString();
    }

    /** Two objects know nothing of each other. */
    private static void testTwoObjects() {
        Asker one = new Asker(new OpenTricks());
        Asker other = new Asker(new OpenTricks());
        one.ask("begin", 3);
        same("the other's trump", other.ask("begin", -1), -1);
        oneEach(one, 0, 0, 1, 2, 3);
        oneEach(other, 1, 0, 5, 1, 2);
        same("solve of one", one.ask("solve"), 0);
        same("solve of the other", other.ask("solve"), 1);
        one.ask("play", 0);
        same("the other's trick", other.ask("inTrick"), 0);
        same("the other's turn", other.ask("turn"), 1);
        other.ask("begin", 0);
        same("one's trick", one.ask("inTrick"), 1);
        same("one is started", one.ask("isStarted"), true);
        same("a new one is not started", new OpenTricks().isStarted(), false);
        same("one's trump", one.ask("begin", -1), 3);
    }

    /** "An object is used for at most 512 calls after it has been made": up to the last of them it is as before. */
    private static void testLongUse() {
        Asker game = new Asker(new OpenTricks());
        int calls = 0;
        for (; calls + 12 <= Asker.MOST_CALLS; calls += 12) {
            int round = calls / 12;
            int trumpBefore = round == 0 ? -1 : (round - 1) % SUITS;
            same("begin behind " + calls, game.ask("begin", round % SUITS), trumpBefore);
            for (int player = 0; player < PLAYERS; player++) {
                same("give behind " + calls, game.ask("give", player, player), 1);
            }
            same("start behind " + calls, game.ask("start", 0), 1);
            same("solve behind " + calls, game.ask("solve"), 0);
            for (int card = 0; card < PLAYERS; card++) {
                same("play behind " + calls, game.ask("play", card), card == 3 ? 3 : -1);
            }
            same("takeBack behind " + calls, game.ask("takeBack"), 3);
        }
        for (; calls < Asker.MOST_CALLS; calls++) {
            same("hand behind " + calls, game.ask("hand", 3), 8);
        }
    }
}
