/** Runs every test of the project; its exit code is 1 if one failed. */
public final class AllTests {
    private static final int PROMISES = 27;
    private static final String[] SECTIONS = {"What it is", "Sites and operations",
        "What a site shows", "Links", "Gaps", "Errors"};

    private static final int MOST_MINUTES = 10;

    private AllTests() {
    }

    public static void main(String[] args) {
        endAfter(MOST_MINUTES);
        Checks checks = new Checks();
        promises(checks);
        edges(checks);
        ChangeTests.all(checks);
        FaceTests.all(checks);
        LanguageTests.all(checks);
        ReadmeTests.all(checks);
        ModelTests.all(checks);
        checks.test("each promise and each section has a test", AllTests::namesAll);
        System.out.println("own tests: " + checks.passed() + " held, " + checks.failed() + " broken");
        System.exit(checks.failed() == 0 ? 0 : 1);
    }

    /** A call that comes to no end must not keep the tests from coming to one. */
    private static void endAfter(int minutes) {
        Thread watch = new Thread(() -> {
            try {
                Thread.sleep(minutes * 60_000L);
            } catch (InterruptedException ended) {
                return;
            }
            System.out.println("the tests came to no end in " + minutes + " minutes");
            Runtime.getRuntime().halt(1);
        });
        watch.setDaemon(true);
        watch.start();
    }

    private static void promises(Checks checks) {
        SiteTests.all(checks);
        DrawingTests.all(checks);
        LinkTests.all(checks);
        BoardTests.all(checks);
        FutureTests.all(checks);
    }

    private static void edges(Checks checks) {
        SiteEdges.all(checks);
        DrawingEdges.all(checks);
        LinkEdges.all(checks);
        BoardEdges.all(checks);
        FutureEdges.all(checks);
        OperationEdges.all(checks);
        ShowEdges.all(checks);
        MessageEdges.all(checks);
        ErrorEdges.all(checks);
    }

    private static void namesAll(Checks checks) {
        for (int promise = 1; promise <= PROMISES; promise++) {
            checks.holds("promise " + promise, checks.hasTestOf("promise " + promise + ":"));
        }
        for (String section : SECTIONS) {
            checks.holds(section, checks.hasTestOf("section '" + section + "':"));
        }
    }
}
