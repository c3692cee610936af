import java.util.Arrays;

/** Long runs of calls, the same each time, in which OpenTricks must answer as PlainTricks does. */
final class RandomRuns {
    private static final int CALLS = 512;
    private static final int[] ODD = {-1, -2, 4, 5, 24, 25, 31, 32, 100, Integer.MIN_VALUE, Integer.MAX_VALUE};
    private static final String[] ASKING = {
        "isStarted", "turn", "inTrick", "solve", "solveByAll", "bestCard", "goodForks",
        "canPlay/24", "hand/4", "cardIn/4", "won/2", "value/24", "lowestEqual/24", "unlike/4",
        "isTop/24", "quick/4", "fork/4/4", "value/24", "bestCard", "solve",
    };

    private long seed;
    private final Asker real = new Asker(new OpenTricks());
    private final Asker plain = new Asker(new PlainTricks());
    private final String name;
    private int calls = 0;
    private String firstWrong = "";

    private RandomRuns(int number) {
        name = "random run " + number;
        seed = number * 7919L + 1;
    }

    static void testAll(int count) {
        for (int number = 0; number < count; number++) {
            RandomRuns run = new RandomRuns(number);
            run.go();
            Check.same(run.name, run.firstWrong.isEmpty() ? "as due" : run.firstWrong, "as due");
        }
    }

    private int below(int bound) {
        seed = seed * 6364136223846793005L + 1442695040888963407L;
        return (int) ((seed >>> 33) % bound);
    }

    private String both(String call, int... arguments) {
        calls++;
        String due = plain.ask(call, arguments);
        if (calls > CALLS) {
            return due;
        }
        String got = real.ask(call, arguments);
        if (firstWrong.isEmpty() && !got.equals(due)) {
            firstWrong = "call " + calls + ", " + call + Arrays.toString(arguments) + ": " + got + " for " + due;
        }
        return due;
    }

    private void go() {
        while (calls < CALLS) {
            deal();
            int steps = below(120);
            for (int step = 0; step < steps && calls < CALLS; step++) {
                anyStep();
            }
            if (calls < CALLS) {
                both("begin", below(5) - 1);
            }
        }
    }

    /** A full deal, now and then with a wrong call between. Few suits make long ones. */
    private void deal() {
        int size = 1 + below(4);
        int suits = size == 4 && below(3) > 0 ? 4 : 1 + (size * 4 - 1) / 6 + below(4 - (size * 4 - 1) / 6);
        int[] pack = new int[6 * suits];
        for (int i = 0; i < pack.length; i++) {
            int j = below(i + 1);
            pack[i] = pack[j];
            pack[j] = i;
        }
        for (int i = 0; i < 4 * size; i++) {
            both("give", i % 4, pack[i]);
            if (below(8) == 0) {
                anyStep();
            }
        }
        both("start", below(4));
    }

    private void anyStep() {
        int kind = below(100);
        if (kind < 40) {
            playSome();
        } else if (kind < 52) {
            both("takeBack");
        } else if (kind < 55) {
            both("play", argument(24));
        } else if (kind < 57) {
            both("give", argument(4), argument(24));
        } else if (kind < 58) {
            both("start", argument(4));
        } else if (kind < 59) {
            both("begin", ODD[1 + below(ODD.length - 1)]);
        } else {
            String[] parts = ASKING[below(ASKING.length)].split("/");
            int[] arguments = new int[parts.length - 1];
            for (int i = 0; i < arguments.length; i++) {
                arguments[i] = argument(Integer.parseInt(parts[i + 1]));
            }
            both(parts[0], arguments);
        }
    }

    private int argument(int bound) {
        return below(12) == 0 ? ODD[below(ODD.length)] : below(bound);
    }

    private void playSome() {
        int first = below(24);
        for (int i = 0; i < 24; i++) {
            int card = (first + i) % 24;
            if (plain.ask("canPlay", card).equals("true")) {
                both("value", card);
                both("play", card);
                return;
            }
        }
    }
}
