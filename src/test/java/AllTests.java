import java.io.IOException;
import java.nio.file.Files;
import java.nio.file.Path;

/**
 * Runs every test of the project; exits with 1 if one fails. Takes the paths of README.md and of
 * the document.
 */
public final class AllTests {
    private AllTests() {
    }

    public static void main(String[] args) throws IOException {
        ReadmeTest.read(Path.of(args[0]));
        if (Files.isReadable(Path.of(args[1]))) {
            Document.read(Path.of(args[1]));
        } else {
            System.out.println("the document is not there: quotes from it are not compared");
        }
        Checks.group("README.md", ReadmeTest::run);
        Checks.group("LogTest", LogTest::run);
        Checks.group("WindTest", WindTest::run);
        Checks.group("TableTest", TableTest::run);
        Checks.group("TurnsTest", TurnsTest::run);
        Checks.group("PlacesTest", PlacesTest::run);
        Checks.group("ModelTest", ModelTest::run);
        testsOfSentences();
        System.out.println(Checks.passed() + " passed, " + Checks.failed() + " failed");
        if (Checks.failed() != 0) {
            System.exit(1);
        }
    }

    private static void testsOfSentences() {
        WholeTest.run();
        FaceTest.run();
        TermsTest.run();
        WindTermsTest.run();
        TableTermsTest.run();
        ExceptionsTest.run();
        LogPromisesTest.run();
        WindPromisesTest.run();
        TablePromisesTest.run();
        TurnPromisesTest.run();
        PlacePromisesTest.run();
        Document.nothingIsLeftOut();
    }
}
