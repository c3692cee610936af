import java.io.IOException;
import java.nio.file.Path;

/** Runs all tests; its one argument is the project's folder. */
public final class AllTests {
    private static final int RANDOM_RUNS = 400;

    private AllTests() {
    }

    public static void main(String[] arguments) throws IOException {
        Path project = Path.of(arguments[0]);
        FaceTest.testFace();
        LanguageTest.testSource(project.resolve("src/main/java/OpenTricks.java"));
        ReadmeTest.testReadme(project.resolve("README.md"));
        RunFile.testAll(project.resolve("src/test/runs"), 23);
        RunFile.testAll(project.resolve("src/test/bounds"), 24);
        Refusals.testAll();
        EveryCase.testAll();
        AnyOrder.testAll();
        RandomRuns.testAll(RANDOM_RUNS);
        System.out.println(Check.summary());
        if (!Check.allPassed()) {
            System.exit(1);
        }
    }
}
