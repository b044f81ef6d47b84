/** Promises 12 to 18: deliver, lose, deliverAll, waiting, gap, repair, transfer. */
final class LinkTests {
    private interface OfTwo {
        int call(int a, int b);
    }

    private LinkTests() {
    }

    static void all(Checks checks) {
        checks.test("promise 12: deliver", LinkTests::deliver);
        checks.test("promise 12: deliver what is known already", LinkTests::deliverKnown);
        checks.test("promise 13: lose", LinkTests::lose);
        checks.test("promise 14: deliverAll", LinkTests::deliverAll);
        checks.test("promise 15: waiting", LinkTests::waiting);
        checks.test("promise 16: gap", LinkTests::gap);
        checks.test("promise 16: gap, the widest and the most", LinkTests::gapEdges);
        checks.test("promise 16: gap, wrong inputs", LinkTests::gapWrong);
        checks.test("promise 17: repair", LinkTests::repair);
        checks.test("promise 17: repair of all authors", LinkTests::repairAuthors);
        checks.test("promise 18: transfer", LinkTests::transfer);
        checks.test("promise 18: transfer, sizes and clocks", LinkTests::transferSizes);
    }

    private static void refusesWrongPairs(Checks due, Played board, String name, OfTwo method) {
        int sites = board.sites();
        due.unchanged("wrong " + name, board, () -> {
            due.is(name + "(0, 0)", method.call(0, 0), Checks.INVALID);
            due.is(name + " of the last two times", method.call(sites - 1, sites - 1), Checks.INVALID);
            due.is(name + "(-1, 0)", method.call(-1, 0), Checks.INVALID);
            due.is(name + "(0, -1)", method.call(0, -1), Checks.INVALID);
            due.is(name + "(sites, 0)", method.call(sites, 0), Checks.INVALID);
            due.is(name + "(0, sites)", method.call(0, sites), Checks.INVALID);
            for (int far : Checks.FAR) {
                due.is(name + "(far, 0)", method.call(far, 0), Checks.INVALID);
                due.is(name + "(0, far)", method.call(0, far), Checks.INVALID);
                due.is(name + "(far, far)", method.call(far, far), Checks.INVALID);
            }
        });
    }

    private static void deliver(Checks due) {
        Played board = Draw.withSites(5);
        due.is("an empty link", board.deliver(3, 4), Checks.MISSING);
        Draw.dots(board, 3, 2);
        due.is("deliver(3, 4)", board.deliver(3, 4), 301);
        due.is("knows the first", board.knows(4, 3, 1), 1);
        due.is("knows the second", board.knows(4, 3, 2), 0);
        due.is("remain", board.waiting(3, 4), 1);
        due.is("the other links", board.waiting(3, 0), 2);
        refusesWrongPairs(due, board, "deliver", board::deliver);
        due.is("deliver(3, 4) again", board.deliver(3, 4), 302);
        due.is("clock", board.siteInfo(4, 0), 2);
        due.unchanged("deliver of an empty link", board, () -> {
            due.is("empty again", board.deliver(3, 4), Checks.MISSING);
            due.is("the other direction", board.deliver(4, 3), Checks.MISSING);
        });
        board.reset(2);
        Draw.dots(board, 0, 11);
        for (int number = 1; number <= 10; number++) {
            due.is("in their order", board.deliver(0, 1), number);
        }
        due.is("the eleventh was lost", board.deliver(0, 1), Checks.MISSING);
        due.is("it is not known", board.knows(1, 0, 11), 0);
        Draw.dot(board, 0, 1, 1, 1, 1);
        due.is("the link takes messages again", board.deliver(0, 1), 12);
    }

    private static void deliverKnown(Checks due) {
        Played board = new Played();
        Draw.dots(board, 0, 2);
        due.is("transfer", board.transfer(1, 0), 8);
        due.is("deliver", board.deliver(0, 1), 1);
        due.is("known once", board.siteInfo(1, 1), 2);
        due.is("clock", board.siteInfo(1, 0), 2);
        due.is("deliverAll", board.deliverAll(), 1);
        due.is("known once", board.siteInfo(1, 1), 2);
    }

    private static void lose(Checks due) {
        Played board = Draw.withSites(3);
        due.is("an empty link", board.lose(0, 1), Checks.MISSING);
        Draw.dots(board, 0, 3);
        due.is("lose(0, 1)", board.lose(0, 1), 2);
        due.is("not known", board.knows(1, 0, 1), 0);
        due.is("the next is the first now", board.deliver(0, 1), 2);
        due.is("lose(0, 1) to the end", board.lose(0, 1), 0);
        refusesWrongPairs(due, board, "lose", board::lose);
        due.unchanged("lose of an empty link", board, () -> {
            due.is("empty again", board.lose(0, 1), Checks.MISSING);
            due.is("the other direction", board.lose(1, 0), Checks.MISSING);
        });
        due.is("the other link", board.waiting(0, 2), 3);
        Draw.dots(board, 0, 10);
        due.is("lose of a full link", board.lose(0, 2), 9);
        Draw.dot(board, 0, 1, 1, 1, 1);
        due.is("there is room for one", board.waiting(0, 2), 10);
        due.is("the second is the first now", board.deliver(0, 2), 2);
    }

    private static void deliverAll(Checks due) {
        Played board = Draw.withSites(3);
        due.is("nothing", board.deliverAll(), 0);
        Draw.dots(board, 0, 2);
        Draw.dots(board, 1, 1);
        board.lose(0, 2);
        due.is("5 messages", board.deliverAll(), 5);
        due.is("again", board.deliverAll(), 0);
        due.is("waiting", board.waiting(0, 1), 0);
        due.is("known to 0", board.siteInfo(0, 1), 3);
        due.is("known to 1", board.siteInfo(1, 1), 3);
        due.is("known to 2", board.siteInfo(2, 1), 2);
        due.is("clock of 1", board.siteInfo(1, 0), 2);
        board.reset(1);
        due.is("of 1 site", board.deliverAll(), 0);
        board.reset(5);
        for (int site = 0; site < 5; site++) {
            Draw.dots(board, site, 11);
        }
        due.is("20 full links", board.deliverAll(), 200);
        due.is("all boards", board.differing(), 10);
        due.is("known", board.siteInfo(4, 1), 51);
    }

    private static void waiting(Checks due) {
        Played board = Draw.withSites(3);
        due.is("none", board.waiting(0, 1), 0);
        for (int number = 1; number <= 12; number++) {
            Draw.dot(board, 0, 0, 0, 0, 0);
            due.is("waiting(0, 1)", board.waiting(0, 1), Math.min(number, 10));
        }
        due.is("the other direction", board.waiting(1, 0), 0);
        due.is("the other link", board.waiting(0, 2), 10);
        due.is("of two others", board.waiting(1, 2), 0);
        refusesWrongPairs(due, board, "waiting", board::waiting);
        board.undo(0);
        due.is("a full link stays full", board.waiting(0, 1), 10);
        board.deliver(0, 1);
        due.is("one less", board.waiting(0, 1), 9);
        board.redo(0);
        due.is("one more", board.waiting(0, 1), 10);
        board.reset(1);
        due.is("1 site", board.waiting(0, 0), Checks.INVALID);
    }

    private static void gap(Checks due) {
        Played board = Draw.withSites(3);
        Draw.dots(board, 0, 10);
        Draw.deliverOnly(board, 0, 1, 2, 3, 7, 9);
        due.is("the first", board.gap(1, 0, 0), 101);
        due.is("a range", board.gap(1, 0, 1), 406);
        due.is("the last", board.gap(1, 0, 2), 808);
        due.is("above the greatest is none", board.gap(1, 0, 3), Checks.MISSING);
        due.is("index MAX", board.gap(1, 0, Integer.MAX_VALUE), Checks.MISSING);
        due.is("its own operations", board.gap(0, 0, 0), Checks.MISSING);
        due.is("none known", board.gap(2, 0, 0), Checks.MISSING);
        due.is("of another author", board.gap(1, 2, 0), Checks.MISSING);
        board.repair(1, 0);
        due.is("after the repair", board.gap(1, 0, 0), Checks.MISSING);
    }

    private static void gapEdges(Checks due) {
        Played board = new Played();
        Draw.dots(board, 1, 10);
        Draw.deliverOnly(board, 1, 0);
        Draw.dots(board, 1, 10);
        for (int k = 0; k < 9; k++) {
            board.lose(1, 0);
        }
        due.is("the twentieth", board.deliver(1, 0), 120);
        due.is("the widest gap", board.gap(0, 1, 0), 119);
        due.is("there is one", board.gap(0, 1, 1), Checks.MISSING);
        board.reset(2);
        Draw.dots(board, 1, 10);
        Draw.deliverOnly(board, 1, 0, 2, 4, 6, 8, 10);
        Draw.dots(board, 1, 10);
        Draw.deliverOnly(board, 1, 0, 2, 4, 6, 8, 10);
        for (int index = 0; index < 10; index++) {
            due.is("gap " + index, board.gap(0, 1, index), 101 * (2 * index + 1));
        }
        due.is("gap 10", board.gap(0, 1, 10), Checks.MISSING);
    }

    private static void gapWrong(Checks due) {
        Played board = Draw.withSites(3);
        Draw.dots(board, 0, 3);
        Draw.deliverOnly(board, 0, 1, 3);
        due.unchanged("wrong gap", board, () -> {
            due.is("site -1", board.gap(-1, 0, 0), Checks.INVALID);
            due.is("site 3", board.gap(3, 0, 0), Checks.INVALID);
            due.is("author -1", board.gap(1, -1, 0), Checks.INVALID);
            due.is("author 3", board.gap(1, 3, 0), Checks.INVALID);
            due.is("index -1", board.gap(1, 0, -1), Checks.INVALID);
            due.is("index -1 of no gaps", board.gap(2, 0, -1), Checks.INVALID);
            for (int far : Checks.FAR) {
                due.is("far site", board.gap(far, 0, 0), Checks.INVALID);
                due.is("far author", board.gap(1, far, 0), Checks.INVALID);
            }
            due.is("index MIN", board.gap(1, 0, Integer.MIN_VALUE), Checks.INVALID);
        });
        due.is("the gap", board.gap(1, 0, 0), 102);
    }

    private static void repair(Checks due) {
        Played board = Draw.withSites(4);
        Draw.dots(board, 0, 6);
        Draw.deliverOnly(board, 0, 1, 3, 5);
        Draw.deliverOnly(board, 0, 2, 1, 2, 6);
        refusesWrongPairs(due, board, "repair", board::repair);
        due.is("nothing in the gaps", board.repair(3, 0), 0);
        due.is("a helper that knows nothing", board.repair(1, 3), 0);
        due.is("1 and 2, not 6", board.repair(1, 2), 2);
        due.is("1 is known", board.knows(1, 0, 1), 1);
        due.is("2 is known", board.knows(1, 0, 2), 1);
        due.is("4 is not", board.knows(1, 0, 4), 0);
        due.is("6 is not", board.knows(1, 0, 6), 0);
        due.is("its clock", board.siteInfo(1, 0), 5);
        due.is("again", board.repair(1, 2), 0);
        due.is("the helper got nothing", board.siteInfo(2, 1), 3);
        due.is("4", board.repair(1, 0), 1);
        due.is("no link was used", board.waiting(3, 0), 0);
        due.is("the messages wait as before", board.waiting(0, 3), 6);
        Draw.deliverOnly(board, 0, 3);
        Draw.dots(board, 0, 14);
        Draw.deliverOnly(board, 0, 3);
        due.is("a gap before none", board.repair(3, 0), 0);
        board.reset(2);
        Draw.dots(board, 1, 10);
        Draw.deliverOnly(board, 1, 0);
        Draw.dots(board, 1, 10);
        Draw.deliverOnly(board, 1, 0, 10);
        due.is("a gap before the twentieth", board.repair(0, 1), 19);
        due.is("all known", board.siteInfo(0, 1), 20);
        board.reset(1);
        due.is("1 site", board.repair(0, 0), Checks.INVALID);
    }

    private static void repairAuthors(Checks due) {
        Played board = Draw.withSites(4);
        Draw.dots(board, 0, 3);
        board.transfer(1, 0);
        Draw.dots(board, 1, 3);
        board.transfer(2, 1);
        Draw.deliverOnly(board, 0, 3, 3);
        Draw.deliverOnly(board, 1, 3, 2, 3);
        due.is("clock before", board.siteInfo(3, 0), 6);
        due.is("of two authors", board.repair(3, 2), 3);
        due.is("all known", board.siteInfo(3, 1), 6);
        due.is("the clock is not set back", board.siteInfo(3, 0), 6);
        board.reset(3);
        Draw.dots(board, 1, 5);
        board.transfer(0, 1);
        Draw.deliverOnly(board, 1, 2);
        Draw.dot(board, 0, 1, 1, 1, 1);
        Draw.dot(board, 2, 1, 1, 1, 1);
        due.is("nothing of 1 is known to 2", board.repair(2, 0), 0);
        due.is("its own clock", board.siteInfo(2, 0), 1);
    }

    private static void transfer(Checks due) {
        Played board = Draw.withSites(3);
        Draw.dots(board, 0, 3);
        board.undo(0);
        board.lift(0, 0, 3);
        refusesWrongPairs(due, board, "transfer", board::transfer);
        due.is("all of them", board.transfer(2, 0), 3 * 4 + 3 + 4);
        due.is("known", board.siteInfo(2, 1), 5);
        due.is("clock", board.siteInfo(2, 0), 5);
        due.is("the same board", board.areSame(0, 2), 1);
        due.is("again", board.transfer(2, 0), 0);
        due.is("no link was used", board.waiting(0, 2), 5);
        board.deliver(0, 1);
        due.is("what is not known yet", board.transfer(1, 2), 2 * 4 + 3 + 4);
        due.is("from one that knows less", board.transfer(0, 1), 0);
        Draw.dot(board, 1, 5, 5, 5, 0);
        due.is("another author's", board.transfer(0, 1), 4);
        due.is("clock", board.siteInfo(0, 0), 6);
        due.is("the helper got nothing", board.siteInfo(1, 1), 6);
        due.is("a helper that knows none", new Played().transfer(0, 1), 0);
        board.reset(1);
        due.is("1 site", board.transfer(0, 0), Checks.INVALID);
    }

    private static void transferSizes(Checks due) {
        Played board = Draw.withSites(3);
        Draw.line(board, 0, -4, 3, -5, 0, 0, 4, 8, 8);
        due.is("1 + 2 + 2 + 2 points", board.transfer(1, 0), 4 + 1 + 2 + 2 + 2);
        Draw.dots(board, 1, 5);
        Draw.dot(board, 2, 1, 1, 1, 1);
        due.is("clock of the helper", board.siteInfo(1, 0), 6);
        due.is("clock before", board.siteInfo(2, 0), 1);
        board.transfer(2, 1);
        due.is("clock after", board.siteInfo(2, 0), 6);
        due.is("back", board.transfer(1, 2), 4);
        due.is("the greater clock stays", board.siteInfo(1, 0), 6);
        Draw.dots(board, 0, 9);
        due.is("a helper with a smaller clock", board.transfer(0, 1), 6 * 4);
        due.is("its own clock stays", board.siteInfo(0, 0), 10);
    }
}
