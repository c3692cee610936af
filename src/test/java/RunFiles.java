import java.io.IOException;
import java.nio.file.Files;
import java.nio.file.Path;
import java.util.List;
import java.util.stream.Collectors;
import java.util.stream.Stream;

/**
 * Plays the runs of calls that stand in files. "new" makes a new object, "call(1, 2) -> answer"
 * asks it, "#" begins a comment. Behind each call that throws, and each that only asks, the state
 * must be the one ahead of it.
 */
final class RunFiles {
    private static final List<String> CHANGING = List.of("begin", "give", "start", "play", "takeBack");

    private RunFiles() {
    }

    static void testAll(Path folder) throws IOException {
        List<Path> files;
        try (Stream<Path> found = Files.list(folder)) {
            files = found.filter(f -> f.toString().endsWith(".txt")).sorted().collect(Collectors.toList());
        }
        Check.same("the number of run files", String.valueOf(files.size()), "23");
        for (Path file : files) {
            testFile(file);
        }
    }

    private static void testFile(Path file) throws IOException {
        Asker asker = new Asker(new OpenTricks());
        int number = 0;
        for (String line : Files.readAllLines(file)) {
            number++;
            String step = line.replaceFirst("#.*", "").trim();
            if (step.equals("new")) {
                asker = new Asker(new OpenTricks());
            } else if (!step.isEmpty()) {
                testStep(asker, file.getFileName() + ":" + number + " ", step);
            }
        }
    }

    private static void testStep(Asker asker, String where, String step) {
        String[] parts = step.split("\\s*->\\s*");
        if (parts.length != 2) {
            Check.same(where + step, "no step", "call -> answer");
            return;
        }
        boolean changing = CHANGING.contains(parts[0].substring(0, parts[0].indexOf('(')));
        String before = asker.state();
        String answer = asker.askText(parts[0]);
        Check.same(where + parts[0], answer, parts[1]);
        if (answer.startsWith("throws") || !changing) {
            Check.same(where + parts[0] + ", the state behind it", asker.state(), before);
        }
    }
}
