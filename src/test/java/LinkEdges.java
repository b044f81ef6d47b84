/** Promises 12 to 18: each sentence that names a boundary. */
final class LinkEdges {
    private LinkEdges() {
    }

    static void all(Checks checks) {
        deliver(checks);
        lose(checks);
        deliverAll(checks);
        waiting(checks);
        gap(checks);
        repair(checks);
        repairEnds(checks);
        transfer(checks);
        transferEnds(checks);
    }

    /** Site 0 has made 10 operations; the link to site 1 is full. */
    private static Played fullLink() {
        Played board = new Played();
        Draw.dots(board, 0, 10);
        return board;
    }

    /** Site 1 knows the twentieth operation of site 0 and nothing else; site 2 knows all of them. */
    private static Played widestGap() {
        Played board = Draw.withSites(3);
        Draw.dots(board, 0, 10);
        Draw.deliverOnly(board, 0, 1);
        Draw.dots(board, 0, 10);
        Draw.deliverOnly(board, 0, 1, 10);
        board.transfer(2, 0);
        return board;
    }

    private static void deliver(Checks checks) {
        Edges.range(checks, "promise 12: deliver, from 0 to the last site", Draw::busy,
                (board, value) -> board.deliver(value, 1), 0, 3, 2, 201);
        Edges.range(checks, "promise 12: deliver, to site 0 to the last one", Draw::busy,
                (board, value) -> board.deliver(1, value), 0, 101, 2, 101);
        Edges.refusesSame(checks, "promise 12: deliver to the same site",
                (board, value) -> board.deliver(value, value));
        Edges.refused(checks, "promise 12: deliver, an empty link", Played::new,
                board -> board.deliver(1, 0), Checks.MISSING);
        checks.test("promise 12: deliver empties a full link message by message", due -> {
            Played board = fullLink();
            for (int number = 1; number <= 10; number++) {
                due.is("deliver", board.deliver(0, 1), number);
                due.is("known", board.siteInfo(1, 1), number);
                due.is("remain", board.waiting(0, 1), 10 - number);
            }
            due.is("the empty link", board.deliver(0, 1), Checks.MISSING);
        });
        checks.test("promise 12: deliver returns the least value, 1", due ->
                due.is("deliver", fullLink().deliver(0, 1), 1));
        checks.test("promise 12: deliver returns the greatest value, 420", due -> {
            Played board = Draw.withSites(5);
            Draw.dots(board, 4, 19);
            Draw.deliverOnly(board, 4, 3);
            Draw.dot(board, 4, 1, 1, 1, 1);
            due.is("deliver", board.deliver(4, 3), 420);
            due.is("knows", board.knows(3, 4, 20), 1);
        });
        checks.test("promise 12: deliver with the links of one site alone", due -> {
            Played board = Draw.withSites(1);
            Draw.dot(board, 0, 1, 1, 1, 1);
            due.is("deliver(0, 0)", board.deliver(0, 0), Checks.INVALID);
            due.is("deliver(0, 1)", board.deliver(0, 1), Checks.INVALID);
        });
    }

    private static void lose(Checks checks) {
        Edges.range(checks, "promise 13: lose, from 0 to the last site", Draw::busy,
                (board, value) -> board.lose(value, 1), 0, 5, 2, 1);
        Edges.range(checks, "promise 13: lose, to site 0 to the last one", Draw::busy,
                (board, value) -> board.lose(1, value), 0, 0, 2, 0);
        Edges.refusesSame(checks, "promise 13: lose to the same site",
                (board, value) -> board.lose(value, value));
        Edges.refused(checks, "promise 13: lose, an empty link", Played::new,
                board -> board.lose(0, 1), Checks.MISSING);
        checks.test("promise 13: lose empties a full link message by message", due -> {
            Played board = fullLink();
            for (int remain = 9; remain >= 0; remain--) {
                due.is("lose", board.lose(0, 1), remain);
            }
            due.is("the empty link", board.lose(0, 1), Checks.MISSING);
            due.is("known", board.siteInfo(1, 1), 0);
            due.is("clock", board.siteInfo(1, 0), 0);
        });
        checks.test("promise 13: lose takes the first message", due -> {
            Played board = fullLink();
            board.lose(0, 1);
            due.is("the next one", board.deliver(0, 1), 2);
            due.is("the first one is not known", board.knows(1, 0, 1), 0);
            due.is("its author knows it", board.knows(0, 0, 1), 1);
        });
        checks.test("promise 13: lose leaves the other links", due -> {
            Played board = Draw.busy();
            board.lose(0, 1);
            due.is("from the same site", board.waiting(0, 2), 8);
            due.is("to the same site", board.waiting(2, 1), 2);
            due.is("the other direction", board.waiting(1, 0), 1);
        });
    }

    private static void deliverAll(Checks checks) {
        checks.test("promise 14: deliverAll, no messages", due -> {
            Played board = Draw.withSites(5);
            due.unchanged("deliverAll", board, () -> due.is("deliverAll()", board.deliverAll(), 0));
        });
        checks.test("promise 14: deliverAll, one site", due -> {
            Played board = Draw.withSites(1);
            Draw.dots(board, 0, 20);
            due.is("deliverAll()", board.deliverAll(), 0);
        });
        checks.test("promise 14: deliverAll, one message", due -> {
            Played board = new Played();
            Draw.dot(board, 1, 1, 1, 1, 1);
            due.is("deliverAll()", board.deliverAll(), 1);
            due.is("known", board.knows(0, 1, 1), 1);
        });
        checks.test("promise 14: deliverAll, all links full", due -> {
            Played board = Draw.withSites(5);
            for (int site = 0; site < 5; site++) {
                Draw.dots(board, site, 11);
            }
            due.is("deliverAll()", board.deliverAll(), 200);
            for (int site = 0; site < 5; site++) {
                due.is("known to " + site, board.siteInfo(site, 1), 51);
                due.is("from " + site, board.waiting(site, (site + 1) % 5), 0);
            }
        });
        checks.test("promise 14: deliverAll twice", due -> {
            Played board = Draw.busy();
            due.is("deliverAll()", board.deliverAll(), 20);
            due.is("deliverAll() again", board.deliverAll(), 0);
        });
        checks.test("promise 14: deliverAll counts messages with what is known already", due -> {
            Played board = fullLink();
            board.transfer(1, 0);
            due.is("deliverAll()", board.deliverAll(), 10);
            due.is("known", board.siteInfo(1, 1), 10);
        });
    }

    private static void waiting(Checks checks) {
        Edges.range(checks, "promise 15: waiting, from 0 to the last site", Draw::busy,
                (board, value) -> board.waiting(value, 1), 0, 6, 2, 2);
        Edges.range(checks, "promise 15: waiting, to site 0 to the last one", Draw::busy,
                (board, value) -> board.waiting(1, value), 0, 1, 2, 1);
        Edges.refusesSame(checks, "promise 15: waiting to the same site",
                (board, value) -> board.waiting(value, value));
        checks.test("promise 15: waiting, an empty link", due -> {
            Played board = fullLink();
            due.is("waiting(1, 0)", board.waiting(1, 0), 0);
        });
        checks.test("promise 15: waiting, a full link", due -> {
            Played board = fullLink();
            due.is("10 messages", board.waiting(0, 1), 10);
            Draw.dot(board, 0, 1, 1, 1, 1);
            due.is("11 operations", board.waiting(0, 1), 10);
        });
    }

    private static void gap(Checks checks) {
        Edges.range(checks, "promise 16: gap, site from 0 to the last one", Draw::busy,
                (board, value) -> board.gap(value, 0, 0), 0, Checks.MISSING, 2, Checks.MISSING);
        Edges.range(checks, "promise 16: gap, author from 0 to the last one", Draw::busy,
                (board, value) -> board.gap(1, value, 0), 0, 101, 2, Checks.MISSING);
        Edges.range(checks, "promise 16: gap, index from 0 on", Draw::busy,
                (board, value) -> board.gap(1, 0, value), 0, 101, Integer.MAX_VALUE, Checks.MISSING);
        Edges.refused(checks, "promise 16: gap, the index after the last gap", Draw::busy,
                board -> board.gap(1, 0, 1), Checks.MISSING);
        checks.test("promise 16: gap returns the least value, 101", due ->
                due.is("gap", Draw.busy().gap(1, 0, 0), 101));
        checks.test("promise 16: gap, the widest one, 1 to 19", due -> {
            Played board = widestGap();
            due.is("gap", board.gap(1, 0, 0), 119);
            due.is("no second one", board.gap(1, 0, 1), Checks.MISSING);
        });
        checks.test("promise 16: gap returns the greatest value, 1919", due -> {
            Played board = new Played();
            Draw.dots(board, 0, 10);
            board.deliverAll();
            Draw.dots(board, 0, 10);
            Draw.deliverOnly(board, 0, 1, 1, 2, 3, 4, 5, 6, 7, 8, 10);
            due.is("gap", board.gap(1, 0, 0), 1919);
        });
        checks.test("promise 16: gap, of the own operations there is none", due -> {
            Played board = Draw.full();
            for (int site = 0; site < 5; site++) {
                due.is("gap", board.gap(site, site, 0), Checks.MISSING);
            }
        });
    }

    private static void repair(Checks checks) {
        Edges.range(checks, "promise 17: repair, site from 0 to the last one", Draw::busy,
                (board, value) -> board.repair(value, 1), 0, 0, 2, 0);
        Edges.range(checks, "promise 17: repair, helper from 0 to the last one", Draw::busy,
                (board, value) -> board.repair(1, value), 0, 1, 2, 0);
        Edges.refusesSame(checks, "promise 17: repair by the same site",
                (board, value) -> board.repair(value, value));
        checks.test("promise 17: repair, a site that knows nothing has no gaps", due -> {
            Played board = widestGap();
            board.join();
            due.unchanged("repair", board, () -> due.is("repair(3, 0)", board.repair(3, 0), 0));
        });
        checks.test("promise 17: repair, a site without gaps", due -> {
            Played board = fullLink();
            board.deliver(0, 1);
            due.unchanged("repair", board, () -> due.is("repair(1, 0)", board.repair(1, 0), 0));
        });
        checks.test("promise 17: repair, a helper that knows nothing of the gaps", due -> {
            Played board = widestGap();
            board.join();
            due.unchanged("repair", board, () -> due.is("repair(1, 3)", board.repair(1, 3), 0));
        });
        checks.test("promise 17: repair, only what lies in the gaps", due -> {
            Played board = fullLink();
            Draw.deliverOnly(board, 0, 1, 2, 5);
            due.is("repair", board.repair(1, 0), 3);
            due.is("5 is the greatest still", board.siteInfo(1, 1), 5);
            due.is("6 is not known", board.knows(1, 0, 6), 0);
        });
        checks.test("promise 17: repair, only what the helper knows", due -> {
            Played board = Draw.withSites(3);
            Draw.dots(board, 0, 5);
            Draw.deliverOnly(board, 0, 1, 5);
            Draw.deliverOnly(board, 0, 2, 1, 4);
            due.is("repair", board.repair(1, 2), 2);
            due.is("the gap that stays", board.gap(1, 0, 0), 203);
            due.is("it is the only one", board.gap(1, 0, 1), Checks.MISSING);
        });
    }

    private static void repairEnds(Checks checks) {
        checks.test("promise 17: repair, the most of one author, 19", due -> {
            Played board = widestGap();
            due.is("repair", board.repair(1, 2), 19);
            due.is("known", board.siteInfo(1, 1), 20);
            due.is("repair again", board.repair(1, 2), 0);
        });
        checks.test("promise 17: repair, the most of all authors, 76", due -> {
            Played board = Draw.withSites(5);
            for (int author = 1; author < 5; author++) {
                Draw.dots(board, author, 10);
                Draw.deliverOnly(board, author, 0);
                Draw.dots(board, author, 10);
                Draw.deliverOnly(board, author, 0, 10);
                if (author > 1) {
                    board.transfer(1, author);
                }
            }
            due.is("known before", board.siteInfo(0, 1), 4);
            due.is("repair", board.repair(0, 1), 76);
            due.is("known", board.siteInfo(0, 1), 80);
            due.is("clock, the greatest time", board.siteInfo(0, 0), 20);
        });
        checks.test("promise 17: repair, operations of each kind, of authors other than the helper", due -> {
            Played board = Draw.withSites(3);
            Draw.dot(board, 0, 1, 1, 1, 1);
            board.undo(0);
            board.redo(0);
            board.lift(0, 0, 3);
            Draw.dot(board, 0, 2, 2, 2, 2);
            Draw.deliverOnly(board, 0, 1, 5);
            board.transfer(2, 0);
            due.is("repair", board.repair(1, 2), 4);
            for (int number = 1; number <= 5; number++) {
                due.is("knows " + number, board.knows(1, 0, number), 1);
            }
            due.is("areSame", board.areSame(0, 1), 1);
        });
        checks.test("promise 17: repair does not wait for what is under way to the helper", due -> {
            Played board = Draw.withSites(3);
            Draw.dots(board, 0, 3);
            Draw.deliverOnly(board, 0, 1, 3);
            board.deliver(0, 2);
            due.is("repair", board.repair(1, 2), 1);
            due.is("the gap that stays", board.gap(1, 0, 0), 202);
        });
        checks.test("promise 17: repair leaves the gaps of the other sites", due -> {
            Played board = Draw.withSites(4);
            Draw.dots(board, 0, 2);
            Draw.deliverOnly(board, 0, 1, 2);
            board.deliver(0, 3);
            due.unchanged("repair of a site without gaps", board, () ->
                    due.is("repair(0, 2)", board.repair(0, 2), 0));
            due.is("the gap of another site", board.gap(1, 0, 0), 101);
        });
        checks.test("promise 17: repair uses no link", due -> {
            Played board = Draw.busy();
            due.is("repair", board.repair(1, 0), 1);
            due.is("the link from the helper", board.waiting(0, 1), 6);
            due.is("the link to the helper", board.waiting(1, 0), 1);
            due.is("the helper knows no more", board.siteInfo(0, 1), 8);
        });
        checks.test("promise 17: repair with the links empty", due -> {
            Played board = new Played();
            Draw.dots(board, 0, 3);
            Draw.deliverOnly(board, 0, 1, 3);
            due.is("waiting", board.waiting(0, 1), 0);
            due.is("repair", board.repair(1, 0), 2);
        });
        checks.test("promise 17: repair leaves a clock that is greater already", due -> {
            Played board = widestGap();
            due.is("before", board.siteInfo(1, 0), 20);
            board.repair(1, 2);
            due.is("after", board.siteInfo(1, 0), 20);
        });
    }

    private static void transfer(Checks checks) {
        Edges.range(checks, "promise 18: transfer, site from 0 to the last one", Draw::busy,
                (board, value) -> board.transfer(value, 1), 0, 5, 2, 9);
        Edges.range(checks, "promise 18: transfer, helper from 0 to the last one", Draw::busy,
                (board, value) -> board.transfer(1, value), 0, 4 * 3 + 3 * 3 + 4, 2, 6 + 4);
        Edges.refusesSame(checks, "promise 18: transfer from the same site",
                (board, value) -> board.transfer(value, value));
        checks.test("promise 18: transfer, a helper that knows nothing", due -> {
            Played board = Draw.busy();
            board.join();
            due.unchanged("transfer", board, () -> due.is("transfer", board.transfer(0, 3), 0));
        });
        checks.test("promise 18: transfer, a helper that knows nothing new", due -> {
            Played board = fullLink();
            board.deliver(0, 1);
            due.unchanged("transfer", board, () -> due.is("transfer", board.transfer(0, 1), 0));
        });
        checks.test("promise 18: transfer, a site that knows nothing gets all", due -> {
            Played board = Draw.full();
            due.is("transfer", board.transfer(0, 4), 80 * 4);
            due.is("known", board.siteInfo(0, 1), 100);
            due.is("clock", board.siteInfo(0, 0), 100);
            due.is("transfer again", board.transfer(0, 4), 0);
        });
        checks.test("promise 18: transfer also gives what is in no gap", due -> {
            Played board = fullLink();
            Draw.deliverOnly(board, 0, 1, 5);
            due.is("transfer", board.transfer(1, 0), 9 * 4);
            due.is("the last one", board.knows(1, 0, 10), 1);
        });
    }

    private static void transferEnds(Checks checks) {
        checks.test("promise 18: transfer, the greatest sum of one author, 20 strokes of 18", due -> {
            Played board = new Played();
            int[] steps = {8, 8, 8, 8, 8, 8, 8, 8, 8, 8, 8, 8, 8, 8};
            for (int k = 0; k < 20; k++) {
                Draw.line(board, 0, steps);
            }
            due.is("transfer", board.transfer(1, 0), 20 * 18);
        });
        checks.test("promise 18: transfer, the clock becomes the helper's when that is greater", due -> {
            Played board = fullLink();
            Draw.dot(board, 1, 1, 1, 1, 1);
            board.transfer(1, 0);
            due.is("the site's", board.siteInfo(1, 0), 10);
            due.is("the helper's", board.siteInfo(0, 0), 10);
        });
        checks.test("promise 18: transfer, the clock stays when it is greater", due -> {
            Played board = fullLink();
            Draw.dot(board, 1, 1, 1, 1, 1);
            board.transfer(0, 1);
            due.is("the site's", board.siteInfo(0, 0), 10);
            due.is("the helper's", board.siteInfo(1, 0), 1);
        });
        checks.test("promise 18: transfer, equal clocks", due -> {
            Played board = new Played();
            Draw.dots(board, 0, 2);
            Draw.dots(board, 1, 2);
            board.transfer(0, 1);
            due.is("the site's", board.siteInfo(0, 0), 2);
            due.is("its next time", board.operation(0, Draw.dot(board, 0, 1, 1, 1, 1), 1), 3);
        });
        checks.test("promise 18: transfer uses no link", due -> {
            Played board = Draw.busy();
            board.transfer(1, 0);
            due.is("the link from the helper", board.waiting(0, 1), 6);
            due.is("the link to the helper", board.waiting(1, 0), 1);
            due.is("the helper knows no more", board.siteInfo(0, 1), 8);
            due.is("deliver", board.deliver(0, 1), 3);
        });
    }
}
