import java.io.IOException;
import java.nio.file.Path;

/** Runs all tests; its one argument is the folder of the run files. */
public final class AllTests {
    private static final int RANDOM_RUNS = 400;

    private AllTests() {
    }

    public static void main(String[] arguments) throws IOException {
        FaceTest.testFace();
        RunFiles.testAll(Path.of(arguments[0]));
        RandomRuns.testAll(RANDOM_RUNS);
        System.out.println(Check.summary());
        if (!Check.allPassed()) {
            System.exit(1);
        }
    }
}
