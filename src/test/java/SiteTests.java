/** Promises 1 to 5: a new object, reset, join, sites, siteInfo. */
final class SiteTests {
    private SiteTests() {
    }

    static void all(Checks checks) {
        checks.test("promise 1: a new object", SiteTests::newObject);
        checks.test("promise 2: reset", SiteTests::reset);
        checks.test("promise 2: reset starts anew", SiteTests::resetStartsAnew);
        checks.test("promise 3: join", SiteTests::join);
        checks.test("promise 3: a joined site starts empty", SiteTests::joinedSiteIsEmpty);
        checks.test("promise 4: sites", SiteTests::sites);
        checks.test("promise 5: siteInfo", SiteTests::siteInfo);
        checks.test("promise 5: siteInfo, wrong inputs", SiteTests::siteInfoWrong);
        checks.test("promise 5: the clock", SiteTests::clock);
    }

    private static void newObject(Checks due) {
        Played board = new Played();
        due.is("sites()", board.sites(), 2);
        for (int site = 0; site < 2; site++) {
            for (int what = 0; what <= 4; what++) {
                due.is("siteInfo(" + site + ", " + what + ")", board.siteInfo(site, what), 0);
            }
            due.is("waiting(" + site + ")", board.waiting(site, 1 - site), 0);
            due.is("digest(" + site + ")", board.digest(site), 17);
            due.is("operation(" + site + ", 1, 0)", board.operation(site, 1, 0), Checks.MISSING);
        }
        due.is("siteInfo(2, 0)", board.siteInfo(2, 0), Checks.INVALID);
        Played other = new Played();
        Draw.dot(other, 0, 1, 1, 1, 1);
        due.is("operations of another object", board.siteInfo(0, 1), 0);
    }

    private static void reset(Checks due) {
        Played board = new Played();
        due.is("reset(1)", board.reset(1), 2);
        due.is("sites() after 1", board.sites(), 1);
        due.is("siteInfo(1, 0) of 1 site", board.siteInfo(1, 0), Checks.INVALID);
        due.is("reset(5)", board.reset(5), 1);
        due.is("sites() after 5", board.sites(), 5);
        due.is("siteInfo(4, 0) of 5 sites", board.siteInfo(4, 0), 0);
        due.is("reset(3)", board.reset(3), 5);
        Draw.dots(board, 2, 2);
        due.unchanged("reset out of range", board, () -> {
            due.is("reset(0)", board.reset(0), Checks.INVALID);
            due.is("reset(6)", board.reset(6), Checks.INVALID);
            due.is("reset(-1)", board.reset(-1), Checks.INVALID);
            for (int far : Checks.FAR) {
                due.is("reset(" + far + ")", board.reset(far), Checks.INVALID);
            }
        });
        due.is("reset(3) again", board.reset(3), 3);
    }

    private static void resetStartsAnew(Checks due) {
        Played board = Draw.withSites(5);
        String fresh = Snapshot.of(board);
        for (int site = 0; site < 5; site++) {
            Draw.line(board, site, 1, 1, 8, 8);
            Draw.dots(board, site, 4);
            board.undo(site);
            board.lift(site, 0, 3);
            board.deliver(site, (site + 1) % 5);
            board.penDown(site, 9, 9, 7, 3);
        }
        board.deliverAll();
        Draw.dots(board, 3, 2);
        due.is("reset(5)", board.reset(5), 5);
        due.holds("all is as in a fresh object", Snapshot.of(board).equals(fresh));
        for (int site = 0; site < 5; site++) {
            due.is("penUp(" + site + ")", board.penUp(site), Checks.IMPOSSIBLE);
            due.is("redo(" + site + ")", board.redo(site), Checks.IMPOSSIBLE);
        }
        due.is("deliverAll()", board.deliverAll(), 0);
        due.is("number after reset", Draw.dot(board, 0, 0, 0, 0, 0), 1);
        due.is("kind after reset", board.operation(0, 1, 0), StrokeBoard.STROKE);
        due.is("time after reset", board.operation(0, 1, 1), 1);
    }

    private static void join(Checks due) {
        Played board = Draw.withSites(1);
        for (int number = 1; number <= 4; number++) {
            due.is("join()", board.join(), number);
            due.is("sites()", board.sites(), number + 1);
        }
        due.unchanged("join with 5 sites", board, () -> {
            due.is("join() with 5", board.join(), Checks.LIMIT);
            due.is("join() with 5 again", board.join(), Checks.LIMIT);
        });
        due.is("sites()", board.sites(), 5);
    }

    private static void joinedSiteIsEmpty(Checks due) {
        Played board = new Played();
        Draw.dots(board, 0, 3);
        board.deliver(0, 1);
        due.is("join()", board.join(), 2);
        for (int what = 0; what <= 4; what++) {
            due.is("siteInfo(2, " + what + ")", board.siteInfo(2, what), 0);
        }
        for (int other = 0; other < 2; other++) {
            due.is("waiting to the new one", board.waiting(other, 2), 0);
            due.is("waiting from the new one", board.waiting(2, other), 0);
        }
        due.is("waiting(0, 1)", board.waiting(0, 1), 2);
        Draw.dot(board, 0, 5, 5, 5, 1);
        due.is("waiting(0, 2) after a stroke", board.waiting(0, 2), 1);
        due.is("deliver(0, 2)", board.deliver(0, 2), 4);
        due.is("siteInfo(2, 0)", board.siteInfo(2, 0), 4);
    }

    private static void sites(Checks due) {
        Played board = new Played();
        due.is("sites()", board.sites(), 2);
        for (int count = 1; count <= 5; count++) {
            board.reset(count);
            due.is("sites() of " + count, board.sites(), count);
        }
        due.unchanged("sites", board, () -> due.is("sites()", board.sites(), 5));
    }

    private static void siteInfo(Checks due) {
        Played board = new Played();
        Draw.dots(board, 0, 3);
        board.undo(0);
        board.penDown(0, 1, 1, 1, 1);
        board.penMove(0, 1, 1);
        int[] first = {4, 4, 4, 2, 2};
        infoIs(due, board, 0, first);
        board.lose(0, 1);
        board.deliver(0, 1);
        board.deliver(0, 1);
        int[] second = {3, 2, 0, 2, 0};
        infoIs(due, board, 1, second);
        Draw.dot(board, 1, 1, 1, 1, 1);
        int[] own = {4, 3, 1, 3, 0};
        infoIs(due, board, 1, own);
        board.deliver(0, 1);
        int[] undone = {4, 4, 1, 2, 0};
        infoIs(due, board, 1, undone);
    }

    private static void infoIs(Checks due, Played board, int site, int[] want) {
        for (int what = 0; what <= 4; what++) {
            due.is("siteInfo(" + site + ", " + what + ")", board.siteInfo(site, what), want[what]);
        }
    }

    private static void siteInfoWrong(Checks due) {
        Played board = Draw.withSites(3);
        Draw.dots(board, 0, 2);
        due.unchanged("wrong siteInfo", board, () -> {
            due.is("siteInfo(-1, 0)", board.siteInfo(-1, 0), Checks.INVALID);
            due.is("siteInfo(3, 0)", board.siteInfo(3, 0), Checks.INVALID);
            due.is("siteInfo(0, -1)", board.siteInfo(0, -1), Checks.INVALID);
            due.is("siteInfo(0, 5)", board.siteInfo(0, 5), Checks.INVALID);
            for (int far : Checks.FAR) {
                due.is("siteInfo(far, 0)", board.siteInfo(far, 0), Checks.INVALID);
                due.is("siteInfo(0, far)", board.siteInfo(0, far), Checks.INVALID);
            }
        });
        due.is("siteInfo(2, 4)", board.siteInfo(2, 4), 0);
    }

    private static void clock(Checks due) {
        Played board = Draw.withSites(3);
        Draw.dots(board, 0, 3);
        Draw.dot(board, 1, 0, 0, 0, 0);
        due.is("own clock", board.siteInfo(1, 0), 1);
        board.deliver(1, 0);
        due.is("an earlier time does not set a clock back", board.siteInfo(0, 0), 3);
        board.deliver(0, 1);
        due.is("an equal time leaves a clock", board.siteInfo(1, 0), 1);
        board.deliver(0, 1);
        due.is("a later time moves a clock", board.siteInfo(1, 0), 2);
        Draw.dot(board, 1, 0, 0, 0, 0);
        due.is("the next operation's time", board.operation(1, 2, 1), 3);
        board.lose(0, 2);
        board.lose(0, 2);
        due.is("a lost message moves no clock", board.siteInfo(2, 0), 0);
    }
}
