/** Promises 25 to 27: differing, bestHelper, endangered; none of them changes anything. */
final class FutureTests {
    private FutureTests() {
    }

    static void all(Checks checks) {
        checks.test("promise 25: differing", FutureTests::differing);
        checks.test("promise 25: differing looks at boards", FutureTests::differingBoards);
        checks.test("promise 26: bestHelper", FutureTests::bestHelper);
        checks.test("promise 26: bestHelper, ties and wrong inputs", FutureTests::bestHelperEdges);
        checks.test("promise 27: endangered", FutureTests::endangered);
        checks.test("promise 27: endangered, wrong inputs and 1 site", FutureTests::endangeredEdges);
        checks.test("promises 25 to 27: nothing changes", FutureTests::nothingChanges);
    }

    private static void differing(Checks due) {
        Played board = Draw.withSites(1);
        due.is("1 site", board.differing(), 0);
        Draw.dots(board, 0, 2);
        due.is("1 site with strokes", board.differing(), 0);
        board.reset(5);
        due.is("empty boards", board.differing(), 0);
        Draw.dot(board, 0, 1, 1, 1, 1);
        due.is("all messages are under way", board.differing(), 0);
        board.lose(0, 4);
        due.is("one site will not get it", board.differing(), 4);
        board.lose(0, 3);
        due.is("two will not", board.differing(), 6);
        Draw.dot(board, 3, 2, 2, 2, 2);
        board.lose(3, 4);
        due.is("three kinds of boards", board.differing(), 3 + 3 + 1);
        board.transfer(4, 0);
        due.is("a transfer, and a message on its way to 3 others", board.differing(), 3 + 1 + 3);
        board.deliverAll();
        due.is("after the delivery", board.differing(), 3 + 1 + 3);
        board.transfer(4, 3);
        board.transfer(3, 4);
        due.is("all the same", board.differing(), 0);
        Draw.dots(board, 2, 11);
        due.is("the eleventh is lost for four", board.differing(), 4);
    }

    private static void differingBoards(Checks due) {
        Played board = Draw.withSites(3);
        Draw.dot(board, 0, 1, 1, 1, 1);
        board.lose(0, 1);
        board.lose(0, 2);
        due.is("a lost stroke", board.differing(), 2);
        board.undo(0);
        due.is("undone: all are empty", board.differing(), 0);
        board.redo(0);
        due.is("redone", board.differing(), 2);
        board.transfer(1, 0);
        board.transfer(2, 0);
        board.lift(1, 0, 3);
        due.is("a LIFT under way", board.differing(), 0);
        board.lose(1, 2);
        due.is("a LIFT lost for one", board.differing(), 2);
        board.lift(2, 0, 2);
        due.is("a LIFT of an equal time, of a greater author", board.differing(), 0);
        due.is("not so now", board.areSame(1, 2), 0);
        board.deliver(2, 0);
        board.deliver(2, 1);
        due.is("now they are", board.areSame(1, 2), 1);
    }

    private static void bestHelper(Checks due) {
        Played board = Draw.withSites(4);
        due.is("no gaps", board.bestHelper(0), Checks.MISSING);
        Draw.dots(board, 0, 5);
        due.is("nothing known", board.bestHelper(1), Checks.MISSING);
        for (int k = 0; k < 4; k++) {
            board.lose(0, 1);
        }
        board.deliver(0, 2);
        board.deliver(0, 2);
        board.lose(0, 3);
        board.deliver(0, 3);
        due.is("no gaps yet", board.bestHelper(1), Checks.MISSING);
        board.deliver(0, 1);
        due.is("0 gives 4, 2 gives 2, 3 gives 1", board.bestHelper(1), 0);
        due.is("0 gives 1, 2 gives 1", board.bestHelper(3), 0);
        due.is("2 has none", board.bestHelper(2), Checks.MISSING);
        due.is("the author has none", board.bestHelper(0), Checks.MISSING);
        due.is("repair as foretold", board.repair(1, 0), 4);
        due.is("repaired", board.bestHelper(1), Checks.MISSING);
    }

    private static void bestHelperEdges(Checks due) {
        Played board = Draw.withSites(5);
        Draw.dots(board, 4, 3);
        board.deliver(4, 1);
        board.deliver(4, 2);
        board.deliver(4, 2);
        board.transfer(3, 4);
        board.lose(4, 0);
        board.lose(4, 0);
        board.deliver(4, 0);
        due.is("3 and 4 give 2, 2 gives 2, 1 gives 1", board.bestHelper(0), 2);
        board.repair(0, 1);
        due.is("2, 3 and 4 give 1", board.bestHelper(0), 2);
        due.unchanged("wrong bestHelper", board, () -> {
            due.is("bestHelper(-1)", board.bestHelper(-1), Checks.INVALID);
            due.is("bestHelper(5)", board.bestHelper(5), Checks.INVALID);
            for (int far : Checks.FAR) {
                due.is("bestHelper(far)", board.bestHelper(far), Checks.INVALID);
            }
        });
        board.reset(1);
        Draw.dots(board, 0, 2);
        due.is("1 site", board.bestHelper(0), Checks.MISSING);
        due.is("bestHelper(1)", board.bestHelper(1), Checks.INVALID);
    }

    private static void endangered(Checks due) {
        Played board = Draw.withSites(3);
        due.is("none made", board.endangered(0), 0);
        Draw.dots(board, 0, 2);
        due.is("both under way", board.endangered(0), 0);
        board.lose(0, 1);
        due.is("still in one link", board.endangered(0), 0);
        board.lose(0, 2);
        due.is("one lost for all", board.endangered(0), 1);
        board.deliver(0, 1);
        board.lose(0, 2);
        due.is("one known to another", board.endangered(0), 1);
        due.is("another author", board.endangered(1), 0);
        board.repair(1, 0);
        due.is("repaired", board.endangered(0), 0);
        Draw.dots(board, 0, 11);
        due.is("the eleventh in a link is lost", board.endangered(0), 1);
        board.undo(0);
        due.is("an UNDO is lost too", board.endangered(0), 2);
        board.transfer(2, 0);
        due.is("transferred", board.endangered(0), 0);
        Draw.dot(board, 1, 1, 1, 1, 1);
        board.lose(1, 2);
        due.is("in the link to site 0", board.endangered(1), 0);
        board.deliver(1, 0);
        due.is("known to site 0", board.endangered(1), 0);
        Draw.dot(board, 1, 1, 1, 1, 1);
        board.lose(1, 0);
        due.is("in the link to site 2", board.endangered(1), 0);
        board.lose(1, 2);
        due.is("known to none", board.endangered(1), 1);
    }

    private static void endangeredEdges(Checks due) {
        Played board = Draw.withSites(1);
        Draw.dots(board, 0, 20);
        due.is("1 site", board.endangered(0), 20);
        due.is("join", board.join(), 1);
        due.is("a new site knows none", board.endangered(0), 20);
        due.unchanged("wrong endangered", board, () -> {
            due.is("endangered(-1)", board.endangered(-1), Checks.INVALID);
            due.is("endangered(2)", board.endangered(2), Checks.INVALID);
            for (int far : Checks.FAR) {
                due.is("endangered(far)", board.endangered(far), Checks.INVALID);
            }
        });
        board.transfer(1, 0);
        due.is("transferred", board.endangered(0), 0);
    }

    private static void nothingChanges(Checks due) {
        Played board = Draw.withSites(5);
        for (int site = 0; site < 5; site++) {
            Draw.dots(board, site, 3);
            board.lose(site, (site + 1) % 5);
            board.deliver(site, (site + 1) % 5);
            board.undo(site);
            board.lift(site, 0, 2);
        }
        due.unchanged("differing, bestHelper, endangered", board, () -> {
            int differing = board.differing();
            due.is("differing() again", board.differing(), differing);
            for (int site = 0; site < 5; site++) {
                int helper = board.bestHelper(site);
                due.is("bestHelper again", board.bestHelper(site), helper);
                due.is("endangered again", board.endangered(site), board.endangered(site));
            }
        });
        int waiting = 0;
        for (int from = 0; from < 5; from++) {
            for (int to = 0; to < 5; to++) {
                waiting += from == to ? 0 : board.waiting(from, to);
            }
        }
        due.is("all messages are there", board.deliverAll(), waiting);
    }
}
