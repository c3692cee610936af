import java.io.IOException;
import java.nio.file.Files;
import java.nio.file.Path;
import java.util.ArrayList;
import java.util.List;
import java.util.regex.Matcher;
import java.util.regex.Pattern;
import java.util.stream.Collectors;
import java.util.stream.Stream;

/**
 * Plays the runs of calls that stand in a file. A line has steps with ";" between them:
 *
 * new                      makes a new object
 * deal 5 3 / 4 6 / 0 / 1   gives cards to the players 0, 1, 2 and 3
 * hand(1) hand(2) -> 0     asks; each of the calls must answer what stands behind the arrow
 *
 * "#" begins a comment. Each answer is asked of the plain model too, so that a wrong row in a file
 * shows. A call that throws or only asks must leave the object's future as it was, and so must a
 * card that is played and taken back.
 */
final class RunFile {
    private static final List<String> CHANGING = List.of("begin", "give", "start", "play", "takeBack");
    private static final Pattern CALL = Pattern.compile("\\w+\\([^)]*\\)");

    private final String name;
    private int lineNumber = 0;
    private Asker real;
    private Asker plain;
    private List<String> history;
    private List<String> future;

    private RunFile(String name) {
        this.name = name;
        renew();
    }

    static void testAll(Path folder, int count) throws IOException {
        List<Path> files;
        try (Stream<Path> found = Files.list(folder)) {
            files = found.filter(f -> f.toString().endsWith(".txt")).sorted().collect(Collectors.toList());
        }
        Check.same("the number of files in " + folder, String.valueOf(files.size()), String.valueOf(count));
        for (Path file : files) {
            RunFile run = new RunFile(folder.getFileName() + "/" + file.getFileName());
            for (String line : Files.readAllLines(file)) {
                run.playLine(line);
            }
        }
    }

    private void playLine(String line) {
        lineNumber++;
        for (String step : line.replaceFirst("#.*", "").split(";")) {
            if (!step.isBlank()) {
                playStep(step.trim());
            }
        }
    }

    private void playStep(String step) {
        String[] parts = step.split("\\s*->\\s*");
        if (step.equals("new")) {
            renew();
        } else if (step.startsWith("deal ")) {
            deal(step.substring("deal ".length()));
        } else if (parts.length == 2 && CALL.matcher(parts[0]).replaceAll("").isBlank()) {
            Matcher calls = CALL.matcher(parts[0]);
            while (calls.find()) {
                testCall(calls.group(), parts[1]);
            }
        } else {
            Check.same(where(step), "no step", "call -> answer");
        }
    }

    private void renew() {
        real = new Asker(new OpenTricks());
        plain = new Asker(new PlainTricks());
        history = new ArrayList<>();
        future = null;
    }

    private void deal(String text) {
        String[] hands = text.split("/");
        for (int player = 0; player < hands.length; player++) {
            int count = 0;
            for (String card : hands[player].trim().split("\\s+")) {
                if (!card.isEmpty()) {
                    count++;
                    testChange("give(" + player + ", " + card + ")", String.valueOf(count));
                }
            }
        }
    }

    private void testCall(String call, String due) {
        if (due.startsWith("throws") || !CHANGING.contains(call.substring(0, call.indexOf('(')))) {
            testAnswer(call, due);
            testFuture(call, call);
            return;
        }
        if (call.startsWith("play")) {
            testFuture(call + " and takeBack()", call, "takeBack()");
        }
        testChange(call, due);
    }

    private void testChange(String call, String due) {
        testAnswer(call, due);
        history.add(call);
        future = null;
    }

    private void testAnswer(String call, String due) {
        Check.same(where(call), real.askText(call), due);
        Check.same(where(call) + " of the plain model", plain.askText(call), due);
    }

    /** With these calls the object must come to the same state as without them. */
    private void testFuture(String what, String... calls) {
        if (future == null) {
            future = Future.of(history);
        }
        List<String> longer = new ArrayList<>(history);
        longer.addAll(List.of(calls));
        Check.same(where(what) + " changes", Future.difference(Future.of(longer), future), "");
    }

    private String where(String what) {
        return name + ":" + lineNumber + " " + what;
    }
}
