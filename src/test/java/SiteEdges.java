/** Promises 1 to 5: each sentence that names a boundary. */
final class SiteEdges {
    private SiteEdges() {
    }

    static void all(Checks checks) {
        newObject(checks);
        reset(checks);
        resetStartsAnew(checks);
        join(checks);
        sites(checks);
        siteInfo(checks);
        siteInfoEnds(checks);
    }

    private static void newObject(Checks checks) {
        checks.test("promise 1: two sites, no third one", due -> {
            Played board = new Played();
            due.is("sites()", board.sites(), 2);
            due.is("the first one's clock", board.siteInfo(0, 0), 0);
            due.is("the last one's clock", board.siteInfo(1, 0), 0);
            due.is("site 2", board.siteInfo(2, 0), Checks.INVALID);
            due.is("site -1", board.siteInfo(-1, 0), Checks.INVALID);
        });
        checks.test("promise 1: the two sites know no operations", due -> {
            Played board = new Played();
            for (int site = 0; site < 2; site++) {
                due.is("known to " + site, board.siteInfo(site, 1), 0);
                due.is("made by " + site, board.siteInfo(site, 2), 0);
                due.is("operation 1 of " + site, board.operation(site, 1, 0), Checks.MISSING);
                due.is("digest of " + site, board.digest(site), 17);
            }
            due.is("messages", board.deliverAll(), 0);
        });
        checks.test("promise 1: no pen is down", due -> {
            Played board = new Played();
            due.is("penUp(0)", board.penUp(0), Checks.IMPOSSIBLE);
            due.is("penUp(1)", board.penUp(1), Checks.IMPOSSIBLE);
        });
        checks.test("promise 1: an object has nothing of another one", due -> {
            Played other = Draw.busy();
            Played board = new Played();
            due.is("sites()", board.sites(), 2);
            due.is("known", board.siteInfo(0, 1), 0);
            due.is("the other one's", other.siteInfo(0, 1), 8);
        });
    }

    private static void reset(Checks checks) {
        Edges.range(checks, "promise 2: reset, sites from 1 to 5", Draw::busy,
                (board, value) -> board.reset(value), 1, 3, 5, 3);
        checks.test("promise 2: reset returns the previous number, of 1 to 5", due -> {
            Played board = new Played();
            due.is("after a new object", board.reset(5), 2);
            for (int sites = 5; sites >= 1; sites--) {
                due.is("after reset(" + sites + ")", board.reset(sites == 1 ? 1 : sites - 1), sites);
            }
        });
        checks.test("promise 2: reset returns the number with the joined sites", due -> {
            Played board = new Played();
            board.join();
            due.is("reset(2)", board.reset(2), 3);
            due.is("reset(2) again", board.reset(2), 2);
        });
        checks.test("promise 2: reset(1) leaves site 0 alone", due -> {
            Played board = Draw.busy();
            board.reset(1);
            due.is("site 0", board.siteInfo(0, 0), 0);
            due.is("site 1", board.siteInfo(1, 0), Checks.INVALID);
        });
        checks.test("promise 2: reset(5) makes sites 0 to 4", due -> {
            Played board = Draw.busy();
            board.reset(5);
            due.is("site 4", board.siteInfo(4, 0), 0);
            due.is("site 5", board.siteInfo(5, 0), Checks.INVALID);
        });
    }

    private static void resetStartsAnew(Checks checks) {
        checks.test("promise 2: after reset to the same number no site knows an operation", due -> {
            Played board = Draw.busy();
            board.reset(3);
            due.holds("as a new object with 3 sites",
                    Snapshot.of(board).equals(Snapshot.of(Draw.withSites(3))));
            for (int site = 0; site < 3; site++) {
                due.is("known to " + site, board.siteInfo(site, 1), 0);
                due.is("made by " + site, board.siteInfo(site, 2), 0);
                due.is("clock of " + site, board.siteInfo(site, 0), 0);
                due.is("strokes of " + site, board.siteInfo(site, 3), 0);
            }
        });
        checks.test("promise 2: after reset full links are empty", due -> {
            Played board = Draw.withSites(5);
            for (int site = 0; site < 5; site++) {
                Draw.dots(board, site, 10);
            }
            board.reset(5);
            due.is("waiting(0, 4)", board.waiting(0, 4), 0);
            due.is("waiting(4, 0)", board.waiting(4, 0), 0);
            due.is("deliver(3, 2)", board.deliver(3, 2), Checks.MISSING);
            due.is("deliverAll()", board.deliverAll(), 0);
        });
        checks.test("promise 2: after reset no pen is down", due -> {
            Played board = Draw.busy();
            board.reset(3);
            for (int site = 0; site < 3; site++) {
                due.is("points of pen " + site, board.siteInfo(site, 4), 0);
                due.is("penMove of " + site, board.penMove(site, 0, 0), Checks.IMPOSSIBLE);
                due.is("penUp of " + site, board.penUp(site), Checks.IMPOSSIBLE);
            }
        });
        checks.test("promise 2: after reset numbers and times begin with 1, with 20 to make", due -> {
            Played board = Draw.twenty();
            board.reset(2);
            due.is("the first one's number", Draw.dot(board, 0, 1, 1, 1, 1), 1);
            due.is("its time", board.operation(0, 1, 1), 1);
            Draw.dots(board, 0, 18);
            due.is("the twentieth", Draw.dot(board, 0, 1, 1, 1, 1), 20);
        });
        checks.test("promise 2: after reset the same calls do the same as on a new object", due -> {
            Played board = Draw.full();
            Draw.makeBusy(board);
            due.holds("after 100 strokes", Snapshot.of(board).equals(Snapshot.of(Draw.busy())));
            Draw.makeBusy(board);
            due.holds("and once more", Snapshot.of(board).equals(Snapshot.of(Draw.busy())));
        });
        checks.test("promise 2: after reset a shorter stroke has no point of the one before", due -> {
            Played board = new Played();
            Draw.line(board, 0, 8, 8, 8, 8);
            board.reset(2);
            Draw.dot(board, 0, 20, 20, 0, 0);
            due.is("points", board.stroke(0, 0, 4), 1);
            due.is("its second point", board.stroke(0, 0, 12), Checks.MISSING);
            due.is("the old second point", board.strokeAt(0, 28, 28), Checks.MISSING);
        });
        checks.test("promise 2: sites that join after reset(1) have nothing of those before", due -> {
            Played board = Draw.busy();
            board.reset(1);
            board.join();
            board.join();
            due.holds("as a new object with 3 sites",
                    Snapshot.of(board).equals(Snapshot.of(Draw.withSites(3))));
        });
    }

    private static void join(Checks checks) {
        for (int sites = 1; sites <= 4; sites++) {
            int number = sites;
            checks.test("promise 3: join with " + number + " sites returns the new one's number", due -> {
                Played board = Draw.withSites(number);
                due.is("no such site yet", board.siteInfo(number, 0), Checks.INVALID);
                due.is("join()", board.join(), number);
                due.is("sites()", board.sites(), number + 1);
                due.is("its clock", board.siteInfo(number, 0), 0);
                due.is("no site above it", board.siteInfo(number + 1, 0), Checks.INVALID);
            });
        }
        Edges.refused(checks, "promise 3: join with 5 sites", Draw::full, Played::join, Checks.LIMIT);
        checks.test("promise 3: join from 1 site to 5, then no more", due -> {
            Played board = Draw.withSites(1);
            for (int number = 1; number <= 4; number++) {
                due.is("join()", board.join(), number);
            }
            due.is("the sixth", board.join(), Checks.LIMIT);
        });
        checks.test("promise 3: a joined site knows no operations and its clock is 0", due -> {
            Played board = Draw.busy();
            board.deliverAll();
            due.is("join()", board.join(), 3);
            for (int what = 0; what <= 4; what++) {
                due.is("siteInfo(3, " + what + ")", board.siteInfo(3, what), 0);
            }
            due.is("knows(3, 0, 1)", board.knows(3, 0, 1), 0);
            due.is("digest(3)", board.digest(3), 17);
        });
        checks.test("promise 3: a joined site's links are empty where the others are full", due -> {
            Played board = new Played();
            Draw.dots(board, 0, 12);
            Draw.dots(board, 1, 12);
            board.join();
            for (int site = 0; site < 2; site++) {
                due.is("to it", board.waiting(site, 2), 0);
                due.is("from it", board.waiting(2, site), 0);
            }
            due.is("a full one", board.waiting(0, 1), 10);
            Draw.dot(board, 0, 1, 1, 1, 1);
            due.is("the first message to it", board.deliver(0, 2), 13);
        });
        checks.test("promise 3: join leaves what the others have", due -> {
            Played board = Draw.busy();
            int digest = board.digest(0);
            board.join();
            due.is("digest", board.digest(0), digest);
            due.is("pen", board.siteInfo(2, 4), 2);
            due.is("messages", board.deliverAll(), 6 + 8 + 1 + 1 + 2 + 2);
        });
    }

    private static void sites(Checks checks) {
        checks.test("promise 4: sites of a new object", due -> due.is("sites()", new Played().sites(), 2));
        checks.test("promise 4: the fewest sites, 1", due ->
                due.is("sites()", Draw.withSites(1).sites(), 1));
        checks.test("promise 4: the most sites, 5", due ->
                due.is("sites()", Draw.withSites(5).sites(), 5));
        checks.test("promise 4: refused calls leave the number of sites", due -> {
            Played board = Draw.withSites(5);
            board.join();
            due.is("after a refused join", board.sites(), 5);
            board.reset(6);
            board.reset(0);
            due.is("after refused resets", board.sites(), 5);
        });
    }

    private static void siteInfo(Checks checks) {
        Edges.range(checks, "promise 5: siteInfo, site from 0 to the last one", Draw::busy,
                (board, value) -> board.siteInfo(value, 0), 0, 8, 2, 2);
        Edges.range(checks, "promise 5: siteInfo, what from 0 to 4", Draw::busy,
                (board, value) -> board.siteInfo(0, value), 0, 8, 4, 2);
        Edges.range(checks, "promise 5: siteInfo of one site alone", () -> Draw.withSites(1),
                (board, value) -> board.siteInfo(value, 0), 0, 0, 0, 0);
        Edges.range(checks, "promise 5: siteInfo of five sites", Draw::full,
                (board, value) -> board.siteInfo(value, 1), 0, 20, 4, 100);
        checks.test("promise 5: siteInfo, each value of a site that knows nothing", due -> {
            Played board = Draw.withSites(5);
            for (int what = 0; what <= 4; what++) {
                due.is("siteInfo(4, " + what + ")", board.siteInfo(4, what), 0);
            }
        });
        checks.test("promise 5: siteInfo, each value of three sites", due -> {
            Played board = Draw.busy();
            int[][] want = {{8, 8, 8, 3, 2}, {3, 2, 1, 2, 2}, {2, 2, 2, 1, 2}};
            for (int site = 0; site < 3; site++) {
                for (int what = 0; what <= 4; what++) {
                    due.is("siteInfo(" + site + ", " + what + ")",
                            board.siteInfo(site, what), want[site][what]);
                }
            }
        });
    }

    private static void siteInfoEnds(Checks checks) {
        checks.test("promise 5: siteInfo, the greatest clock, 100", due ->
                due.is("siteInfo(4, 0)", Draw.full().siteInfo(4, 0), 100));
        checks.test("promise 5: siteInfo, all 100 operations known", due ->
                due.is("siteInfo(4, 1)", Draw.full().siteInfo(4, 1), 100));
        checks.test("promise 5: siteInfo, the most made, 20", due -> {
            Played board = Draw.full();
            due.is("siteInfo(0, 2)", board.siteInfo(0, 2), 20);
            due.is("siteInfo(4, 2), not those received", board.siteInfo(4, 2), 20);
        });
        checks.test("promise 5: siteInfo, a board of 100 strokes", due ->
                due.is("siteInfo(4, 3)", Draw.full().siteInfo(4, 3), 100));
        checks.test("promise 5: siteInfo, a board without one of its undone strokes", due -> {
            due.is("18 of 19", Draw.twenty().siteInfo(0, 3), 18);
            due.is("0 of 1", Draw.twentyUndone().siteInfo(0, 3), 0);
        });
        checks.test("promise 5: siteInfo, the points of a pen that is up, down, full and up again", due -> {
            Played board = new Played();
            due.is("never down", board.siteInfo(1, 4), 0);
            board.penDown(1, 0, 0, 0, 0);
            due.is("down", board.siteInfo(1, 4), 1);
            for (int k = 0; k < 8; k++) {
                board.penMove(1, 1, 1);
            }
            due.is("full", board.siteInfo(1, 4), 8);
            due.is("the other pen", board.siteInfo(0, 4), 0);
            board.penUp(1);
            due.is("up again", board.siteInfo(1, 4), 0);
        });
    }
}
