import java.io.File;
import java.io.IOException;
import java.util.concurrent.TimeUnit;

/**
 * Runs the project's tests, then those of ../shared/tests, each of which is told by two words: the folder with its
 * classes, and its name. The last line says how many passed and how many failed.
 */
public final class AllTests {
    private static final long MOST_SECONDS = 50;

    public static void main(String[] words) {
        Suite suite = new Suite();
        FaceTests.tell(suite);
        PersonTests.tell(suite);
        KinTests.tell(suite);
        HindranceTests.tell(suite);
        DispenseTests.tell(suite);
        FormTests.tell(suite);
        VowTests.tell(suite);
        BoundTests.tell(suite);
        CauseTests.tell(suite);
        VoteTests.tell(suite);
        InstanceTests.tell(suite);
        RangeTests.tell(suite);
        ExceptionTests.tell(suite);
        RunTests.tell(suite);
        LanguageTests.tell(suite);
        ReadmeTests.tell(suite);
        System.out.println(suite.size() + " tests of the project, " + words.length / 2 + " under ../shared/tests");
        for (int at = 0; at + 1 < words.length; at += 2) {
            String folder = words[at];
            String name = words[at + 1];
            suite.test("../shared/tests/" + name, () -> runShared(folder, name));
        }
        suite.run();
        suite.close();
    }

    /** Such a test ends its program with 1 if it fails, so it runs in a program of its own. */
    private static void runShared(String folder, String name) {
        String java = System.getProperty("java.home") + File.separator + "bin" + File.separator + "java";
        try {
            Process process = new ProcessBuilder(java, "-cp", folder, name).inheritIO().start();
            if (!process.waitFor(MOST_SECONDS, TimeUnit.SECONDS)) {
                process.destroyForcibly();
                throw new AssertionError("did not end within " + MOST_SECONDS + " s");
            }
            if (process.exitValue() != 0) {
                throw new AssertionError("ended with the code " + process.exitValue());
            }
        } catch (IOException | InterruptedException e) {
            throw new AssertionError("could not be run: " + e);
        }
    }
}
