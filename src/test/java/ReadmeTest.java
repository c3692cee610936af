import java.io.IOException;
import java.nio.file.Files;
import java.nio.file.Path;
import java.util.Set;
import java.util.TreeSet;
import java.util.regex.Matcher;
import java.util.regex.Pattern;

/** README.md's example answers what it says, and its table has a row for each call. */
final class ReadmeTest {
    private static final Pattern EXAMPLE = Pattern.compile("game\\.(\\w+\\([^)]*\\));\\s*// (-?\\w+)(:.*)?");
    private static final Pattern ROW = Pattern.compile("\\| `(\\w+)\\(.*\\)` \\|.*");

    private ReadmeTest() {
    }

    static void testReadme(Path readme) throws IOException {
        Asker game = new Asker(new OpenTricks());
        Set<String> rows = new TreeSet<>();
        int examples = 0;
        for (String line : Files.readAllLines(readme)) {
            Matcher example = EXAMPLE.matcher(line);
            if (line.startsWith("game.")) {
                examples++;
                boolean read = example.matches();
                Check.same("README: " + line, read ? game.askText(example.group(1)) : "unread", read ? example.group(2) : "");
            }
            Matcher row = ROW.matcher(line);
            if (row.matches()) {
                rows.add(row.group(1));
            }
        }
        Check.same("README has examples", String.valueOf(examples > 0), "true");
        Check.same("README's rows", rows.toString(), new TreeSet<>(FaceTest.callNames()).toString());
    }
}
