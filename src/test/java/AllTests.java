/** Runs every test of the project; exits with 1 if one fails. */
public final class AllTests {
    private AllTests() {
    }

    public static void main(String[] args) {
        FaceTest.run();
        LogTest.run();
        WindTest.run();
        TableTest.run();
        TurnsTest.run();
        PlacesTest.run();
        ModelTest.run();
        System.out.println(Checks.passed() + " passed, " + Checks.failed() + " failed");
        if (Checks.failed() != 0) {
            System.exit(1);
        }
    }
}
