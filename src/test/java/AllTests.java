/** Runs every test of the project; its exit code is 1 if one failed. */
public final class AllTests {
    private AllTests() {
    }

    public static void main(String[] args) {
        Checks checks = new Checks();
        SiteTests.all(checks);
        DrawingTests.all(checks);
        LinkTests.all(checks);
        BoardTests.all(checks);
        FutureTests.all(checks);
        FaceTests.all(checks);
        ModelTests.all(checks);
        System.out.println("own tests: " + checks.passed() + " held, " + checks.failed() + " broken");
        System.exit(checks.failed() == 0 ? 0 : 1);
    }
}
