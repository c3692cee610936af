import java.io.IOException;
import java.nio.file.Path;

/** Runs all tests; its one argument is the folder that holds the folders of run files. */
public final class AllTests {
    private static final int RANDOM_RUNS = 400;

    private AllTests() {
    }

    public static void main(String[] arguments) throws IOException {
        FaceTest.testFace();
        RunFile.testAll(Path.of(arguments[0], "runs"), 23);
        RunFile.testAll(Path.of(arguments[0], "bounds"), 24);
        Refusals.testAll();
        EveryCase.testAll();
        RandomRuns.testAll(RANDOM_RUNS);
        System.out.println(Check.summary());
        if (!Check.allPassed()) {
            System.exit(1);
        }
    }
}
