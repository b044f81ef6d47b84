/** Promises 25 to 27: each sentence that names a boundary. */
final class FutureEdges {
    private FutureEdges() {
    }

    static void all(Checks checks) {
        differing(checks);
        differingMost(checks);
        bestHelper(checks);
        bestHelperTies(checks);
        endangered(checks);
        endangeredEnds(checks);
    }

    private static void differing(Checks checks) {
        checks.test("promise 25: differing, one site", due -> {
            Played board = Draw.withSites(1);
            Draw.dots(board, 0, 3);
            due.is("differing()", board.differing(), 0);
        });
        checks.test("promise 25: differing, empty boards", due ->
                due.is("differing()", Draw.withSites(5).differing(), 0));
        checks.test("promise 25: differing, boards that differ now but not with the messages", due -> {
            Played board = new Played();
            Draw.dots(board, 0, 10);
            due.is("now", board.areSame(0, 1), 0);
            due.is("differing()", board.differing(), 0);
        });
        checks.test("promise 25: differing, the last message of a full link counts", due -> {
            Played board = new Played();
            Draw.dots(board, 0, 10);
            Draw.deliverOnly(board, 0, 1, 1, 2, 3, 4, 5, 6, 7, 8, 9);
            due.is("the last one is lost", board.differing(), 1);
        });
        checks.test("promise 25: differing, a message that a full link has lost", due -> {
            Played board = new Played();
            Draw.dots(board, 0, 11);
            due.is("differing()", board.differing(), 1);
        });
        checks.test("promise 25: differing, boards that are the same now but not with the messages", due -> {
            Played board = Draw.withSites(3);
            Draw.dot(board, 0, 1, 1, 1, 1);
            board.lose(0, 2);
            due.is("1 and 2 now", board.areSame(1, 2), 1);
            due.is("differing()", board.differing(), 2);
        });
        checks.test("promise 25: differing, an UNDO under way to a site that lost the stroke", due -> {
            Played board = new Played();
            Draw.dot(board, 0, 1, 1, 1, 1);
            board.lose(0, 1);
            due.is("the stroke is lost", board.differing(), 1);
            board.undo(0);
            due.is("both will be empty", board.differing(), 0);
        });
    }

    private static void differingMost(Checks checks) {
        checks.test("promise 25: differing, the most pairs of two sites, 1", due -> {
            Played board = new Played();
            Draw.dot(board, 0, 1, 1, 1, 1);
            board.lose(0, 1);
            due.is("differing()", board.differing(), 1);
        });
        checks.test("promise 25: differing, the most pairs, 10 of five sites", due -> {
            Played board = Draw.withSites(5);
            for (int from = 0; from < 5; from++) {
                Draw.dot(board, from, 1, 1, 1, 1);
                for (int to = 0; to < 5; to++) {
                    board.lose(from, to);
                }
            }
            due.is("differing()", board.differing(), 10);
        });
        checks.test("promise 25: differing, one of five sites", due -> {
            Played board = Draw.withSites(5);
            Draw.dot(board, 2, 1, 1, 1, 1);
            board.lose(2, 4);
            due.is("differing()", board.differing(), 4);
        });
        checks.test("promise 25: differing, two of five sites alike, three alike", due -> {
            Played board = Draw.withSites(5);
            Draw.dot(board, 2, 1, 1, 1, 1);
            board.lose(2, 0);
            board.lose(2, 4);
            due.is("differing()", board.differing(), 6);
        });
    }

    private static void bestHelper(Checks checks) {
        Edges.range(checks, "promise 26: bestHelper, site from 0 to the last one", Draw::busy,
                Played::bestHelper, 0, Checks.MISSING, 2, Checks.MISSING);
        Edges.refused(checks, "promise 26: bestHelper, no operation known", Played::new,
                board -> board.bestHelper(0), Checks.MISSING);
        checks.test("promise 26: bestHelper, one site", due -> {
            Played board = Draw.withSites(1);
            Draw.dots(board, 0, 3);
            due.is("bestHelper(0)", board.bestHelper(0), Checks.MISSING);
        });
        checks.test("promise 26: bestHelper, no gap though others know more", due -> {
            Played board = new Played();
            Draw.dots(board, 0, 3);
            board.deliver(0, 1);
            due.is("bestHelper(1)", board.bestHelper(1), Checks.MISSING);
        });
        checks.test("promise 26: bestHelper, no gap though the next site has one", due -> {
            Played board = Draw.withSites(4);
            Draw.dots(board, 0, 2);
            Draw.deliverOnly(board, 0, 1, 2);
            board.deliver(0, 3);
            due.is("the next site", board.bestHelper(1), 0);
            due.is("bestHelper(0)", board.bestHelper(0), Checks.MISSING);
        });
        checks.test("promise 26: bestHelper, a gap of one number", due ->
                due.is("bestHelper(1)", Draw.busy().bestHelper(1), 0));
        checks.test("promise 26: bestHelper, a gap that only the author can fill", due -> {
            Played board = Draw.withSites(5);
            Draw.dots(board, 4, 2);
            Draw.deliverOnly(board, 4, 0, 2);
            due.is("bestHelper(0)", board.bestHelper(0), 4);
            board.repair(0, 4);
            due.is("after the repair", board.bestHelper(0), Checks.MISSING);
        });
    }

    private static void bestHelperTies(Checks checks) {
        checks.test("promise 26: bestHelper, of several the one with the lowest number", due -> {
            Played board = Draw.withSites(5);
            Draw.dots(board, 4, 2);
            Draw.deliverOnly(board, 4, 0, 2);
            board.deliverAll();
            due.is("1, 2, 3 and 4 give one", board.bestHelper(0), 1);
        });
        checks.test("promise 26: bestHelper, the first site", due -> {
            Played board = Draw.withSites(3);
            Draw.dots(board, 1, 2);
            Draw.deliverOnly(board, 1, 2, 2);
            board.deliverAll();
            due.is("0 and 1 give one", board.bestHelper(2), 0);
        });
        checks.test("promise 26: bestHelper, one more counts more than a lower number", due -> {
            Played board = Draw.withSites(4);
            Draw.dots(board, 3, 3);
            Draw.deliverOnly(board, 3, 0, 3);
            Draw.deliverOnly(board, 3, 1, 1);
            Draw.deliverOnly(board, 3, 2, 1, 2);
            due.is("1 gives one, 2 and 3 give two", board.bestHelper(0), 2);
        });
        checks.test("promise 26: bestHelper, what the helper knows beyond the gaps does not count", due -> {
            Played board = Draw.withSites(4);
            Draw.dots(board, 3, 9);
            Draw.deliverOnly(board, 3, 0, 3);
            Draw.deliverOnly(board, 3, 1, 1, 2);
            Draw.deliverOnly(board, 3, 2, 1, 4, 5, 6, 7, 8, 9);
            due.is("1 gives two", board.bestHelper(0), 1);
        });
        checks.test("promise 26: bestHelper, operations count, not their sizes or kinds", due -> {
            Played board = Draw.withSites(3);
            Draw.line(board, 1, 8, 8, 8, 8, 8, 8, 8, 8, 8, 8, 8, 8, 8, 8);
            Draw.dot(board, 1, 1, 1, 1, 1);
            Draw.deliverOnly(board, 1, 0, 2);
            Draw.dot(board, 2, 1, 1, 1, 1);
            board.undo(2);
            board.redo(2);
            Draw.dot(board, 2, 1, 1, 1, 1);
            Draw.deliverOnly(board, 2, 0, 1, 4);
            due.is("1 gives a STROKE of 18, 2 gives UNDO and REDO", board.bestHelper(0), 2);
        });
        checks.test("promise 26: bestHelper, what is under way does not count", due -> {
            Played board = Draw.withSites(4);
            Draw.dots(board, 1, 3);
            Draw.deliverOnly(board, 1, 0, 3);
            board.transfer(2, 1);
            board.transfer(3, 1);
            Draw.dots(board, 2, 5);
            due.is("1, 2 and 3 give two", board.bestHelper(0), 1);
            due.is("the messages of 2", board.waiting(2, 0), 5);
        });
        checks.test("promise 26: bestHelper, a gap counts though its operation is under way", due -> {
            Played board = Draw.withSites(3);
            Draw.dots(board, 1, 2);
            Draw.deliverOnly(board, 1, 2, 2);
            board.transfer(0, 2);
            due.is("the message", board.waiting(1, 0), 2);
            due.is("bestHelper(0)", board.bestHelper(0), 1);
            board.deliver(1, 0);
            due.is("when it has come", board.bestHelper(0), Checks.MISSING);
        });
        checks.test("promise 26: bestHelper, the gaps of all authors count together", due -> {
            Played board = Draw.withSites(5);
            Draw.dots(board, 1, 2);
            Draw.dots(board, 2, 2);
            Draw.deliverOnly(board, 1, 0, 2);
            Draw.deliverOnly(board, 2, 0, 2);
            board.deliver(1, 3);
            board.deliver(1, 4);
            board.deliver(2, 4);
            due.is("1, 2 and 3 give one, 4 gives two", board.bestHelper(0), 4);
        });
    }

    private static void endangered(Checks checks) {
        Edges.range(checks, "promise 27: endangered, author from 0 to the last site", () -> {
            Played board = Draw.withSites(3);
            Draw.dot(board, 2, 1, 1, 1, 1);
            board.lose(2, 0);
            board.lose(2, 1);
            return board;
        }, Played::endangered, 0, 0, 2, 1);
        checks.test("promise 27: endangered, none made", due ->
                due.is("endangered(0)", new Played().endangered(0), 0));
        checks.test("promise 27: endangered, in the last one of its links", due -> {
            Played board = Draw.withSites(5);
            Draw.dot(board, 0, 1, 1, 1, 1);
            for (int to = 1; to <= 3; to++) {
                board.lose(0, to);
            }
            due.is("in the link to site 4", board.endangered(0), 0);
            board.lose(0, 4);
            due.is("in no link", board.endangered(0), 1);
        });
        checks.test("promise 27: endangered, the last site's, in one link alone", due -> {
            for (int kept = 0; kept < 4; kept++) {
                Played board = Draw.withSites(5);
                Draw.dots(board, 4, 2);
                for (int to = 0; to < 4; to++) {
                    board.deliver(4, to);
                    if (to != kept) {
                        board.lose(4, to);
                    }
                }
                due.is("in the link to site " + kept, board.endangered(4), 0);
                board.lose(4, kept);
                due.is("in no link", board.endangered(4), 1);
            }
        });
        checks.test("promise 27: endangered, the last message of a full link", due -> {
            Played board = new Played();
            Draw.dots(board, 0, 10);
            due.is("10 under way", board.endangered(0), 0);
            Draw.dot(board, 0, 1, 1, 1, 1);
            due.is("the eleventh", board.endangered(0), 1);
        });
        checks.test("promise 27: endangered, known to one other site, the last or the first", due -> {
            Played board = Draw.withSites(3);
            Draw.dot(board, 0, 1, 1, 1, 1);
            board.lose(0, 1);
            board.deliver(0, 2);
            due.is("endangered(0)", board.endangered(0), 0);
            Draw.dot(board, 2, 1, 1, 1, 1);
            board.lose(2, 1);
            board.deliver(2, 0);
            due.is("endangered(2)", board.endangered(2), 0);
        });
    }

    private static void endangeredEnds(Checks checks) {
        checks.test("promise 27: endangered, all 20 of one site alone", due -> {
            Played board = Draw.withSites(1);
            Draw.dots(board, 0, 20);
            due.is("endangered(0)", board.endangered(0), 20);
        });
        checks.test("promise 27: endangered, all 20 with all messages lost", due -> {
            Played board = new Played();
            Draw.dots(board, 0, 10);
            Draw.deliverOnly(board, 0, 1);
            Draw.dots(board, 0, 10);
            due.is("10 lost", board.endangered(0), 10);
            Draw.deliverOnly(board, 0, 1);
            due.is("20 lost", board.endangered(0), 20);
            board.transfer(1, 0);
            due.is("transferred", board.endangered(0), 0);
        });
        checks.test("promise 27: endangered, operations of each kind", due -> {
            Played board = Draw.withSites(1);
            Draw.dot(board, 0, 1, 1, 1, 1);
            board.undo(0);
            board.redo(0);
            board.lift(0, 0, 3);
            due.is("endangered(0)", board.endangered(0), 4);
        });
        checks.test("promise 27: endangered, what the author received is not its own", due -> {
            Played board = new Played();
            Draw.dot(board, 1, 1, 1, 1, 1);
            board.deliver(1, 0);
            due.is("endangered(0)", board.endangered(0), 0);
        });
        checks.test("promise 27: endangered, what a pen holds is no operation", due -> {
            Played board = Draw.withSites(1);
            board.penDown(0, 1, 1, 1, 1);
            due.is("endangered(0)", board.endangered(0), 0);
        });
    }
}
