/** The sections "Links" and "Gaps": each sentence that names a boundary. */
final class MessageEdges {
    private static final String LINKS = "section 'Links': ";
    private static final String GAPS = "section 'Gaps': ";

    private MessageEdges() {
    }

    static void all(Checks checks) {
        emptyLinks(checks);
        fullLinks(checks);
        lostMessage(checks);
        messages(checks);
        sizesOfSteps(checks);
        sizes(checks);
        noGaps(checks);
        gaps(checks);
        severalGaps(checks);
    }

    /** Site 0 of two has made 11 operations: the message with the last one was lost. */
    private static Played eleven() {
        Played board = new Played();
        Draw.dots(board, 0, 11);
        return board;
    }

    private static void emptyLinks(Checks checks) {
        checks.test(LINKS + "initially no link holds a message", due -> {
            Played board = Draw.withSites(5);
            for (int from = 0; from < 5; from++) {
                for (int to = 0; to < 5; to++) {
                    int other = from == to ? Checks.INVALID : 0;
                    due.is("waiting(" + from + ", " + to + ")", board.waiting(from, to), other);
                }
            }
            due.is("deliverAll()", board.deliverAll(), 0);
        });
        checks.test(LINKS + "an empty link is emptied no further", due -> {
            Played board = new Played();
            due.unchanged("deliver and lose", board, () -> {
                due.is("deliver", board.deliver(0, 1), Checks.MISSING);
                due.is("lose", board.lose(0, 1), Checks.MISSING);
            });
            Draw.dot(board, 0, 1, 1, 1, 1);
            due.is("waiting, after a message", board.waiting(0, 1), 1);
        });
        checks.test(LINKS + "a link is empty again after its last message", due -> {
            Played board = new Played();
            Draw.dot(board, 0, 1, 1, 1, 1);
            due.is("deliver", board.deliver(0, 1), 1);
            due.is("waiting", board.waiting(0, 1), 0);
            due.is("deliver again", board.deliver(0, 1), Checks.MISSING);
        });
    }

    private static void fullLinks(Checks checks) {
        checks.test(LINKS + "a link holds 9 and 10 messages", due -> {
            Played board = new Played();
            Draw.dots(board, 0, 9);
            due.is("9", board.waiting(0, 1), 9);
            Draw.dot(board, 0, 1, 1, 1, 1);
            due.is("10", board.waiting(0, 1), 10);
        });
        checks.test(LINKS + "a link holds no more than 10 messages", due -> {
            Played board = new Played();
            Draw.dots(board, 0, 20);
            due.is("waiting", board.waiting(0, 1), 10);
        });
        checks.test(LINKS + "a full link loses the new message, not one that it holds", due -> {
            Played board = eleven();
            for (int number = 1; number <= 10; number++) {
                due.is("deliver", board.deliver(0, 1), number);
            }
            due.is("the eleventh", board.deliver(0, 1), Checks.MISSING);
            due.is("knows", board.knows(1, 0, 11), 0);
        });
        checks.test(LINKS + "a full link loses messages of each kind", due -> {
            Played board = eleven();
            board.undo(0);
            board.redo(0);
            board.lift(0, 0, 3);
            due.is("waiting", board.waiting(0, 1), 10);
            due.is("deliverAll()", board.deliverAll(), 10);
            due.is("known", board.siteInfo(1, 1), 10);
        });
        checks.test(LINKS + "a full link has room for one message after deliver", due -> {
            Played board = eleven();
            board.deliver(0, 1);
            Draw.dot(board, 0, 1, 1, 1, 1);
            due.is("waiting", board.waiting(0, 1), 10);
            Draw.deliverOnly(board, 0, 1, 1, 2, 3, 4, 5, 6, 7, 8, 9);
            due.is("the last one was 12", board.gap(1, 0, 0), Checks.MISSING);
            due.is("lost here", board.knows(1, 0, 12), 0);
        });
        checks.test(LINKS + "a full link has room for one message after lose", due -> {
            Played board = eleven();
            board.lose(0, 1);
            Draw.dot(board, 0, 1, 1, 1, 1);
            Draw.dot(board, 0, 1, 1, 1, 1);
            due.is("waiting", board.waiting(0, 1), 10);
            Draw.deliverOnly(board, 0, 1, 10);
            due.is("12 came, 13 was lost", board.siteInfo(1, 0), 12);
        });
    }

    private static void lostMessage(Checks checks) {
        checks.test(LINKS + "what a full link loses is known to its author and counted", due -> {
            Played board = eleven();
            due.is("knows", board.knows(0, 0, 11), 1);
            due.is("made", board.siteInfo(0, 2), 11);
            due.is("strokes", board.siteInfo(0, 3), 11);
            due.is("clock", board.siteInfo(0, 0), 11);
        });
        checks.test(LINKS + "a full link loses what another link still holds", due -> {
            Played board = Draw.withSites(3);
            Draw.dots(board, 0, 9);
            board.deliver(0, 2);
            Draw.dots(board, 0, 2);
            due.is("the full one", board.waiting(0, 1), 10);
            due.is("the other one", board.waiting(0, 2), 10);
            board.deliverAll();
            due.is("11 is lost here", board.knows(1, 0, 11), 0);
            due.is("11 came here", board.knows(2, 0, 11), 1);
        });
        checks.test(LINKS + "what a full link loses can be transferred", due -> {
            Played board = eleven();
            board.deliverAll();
            due.is("transfer", board.transfer(1, 0), 4);
            due.is("knows", board.knows(1, 0, 11), 1);
        });
        checks.test(LINKS + "what a full link loses is a gap when a later one comes", due -> {
            Played board = eleven();
            board.deliverAll();
            Draw.dot(board, 0, 1, 1, 1, 1);
            board.deliver(0, 1);
            due.is("gap", board.gap(1, 0, 0), 1111);
        });
    }

    private static void messages(Checks checks) {
        checks.test(LINKS + "a message goes into the link to each other site, of five", due -> {
            Played board = Draw.withSites(5);
            Draw.dot(board, 2, 1, 1, 1, 1);
            for (int to = 0; to < 5; to++) {
                due.is("from 2 to " + to, board.waiting(2, to), to == 2 ? Checks.INVALID : 1);
                due.is("back", board.waiting(to, 2), to == 2 ? Checks.INVALID : 0);
            }
            due.is("between others", board.waiting(0, 4), 0);
        });
        checks.test(LINKS + "one site alone sends no message", due -> {
            Played board = Draw.withSites(1);
            Draw.dots(board, 0, 3);
            board.join();
            due.is("waiting", board.waiting(0, 1), 0);
            due.is("deliverAll()", board.deliverAll(), 0);
        });
        checks.test(LINKS + "messages of each kind keep their order", due -> {
            Played board = new Played();
            Draw.dot(board, 0, 1, 1, 1, 1);
            board.undo(0);
            board.redo(0);
            board.lift(0, 0, 3);
            due.is("waiting", board.waiting(0, 1), 4);
            int[] strokes = {1, 0, 1, 1};
            int[] layers = {1, Checks.MISSING, 1, 3};
            for (int k = 0; k < 4; k++) {
                due.is("deliver", board.deliver(0, 1), k + 1);
                due.is("strokes", board.siteInfo(1, 3), strokes[k]);
                due.is("layer", board.stroke(1, 0, 2), layers[k]);
            }
        });
        checks.test(LINKS + "what is received is not sent on", due -> {
            Played board = Draw.withSites(3);
            Draw.dot(board, 0, 1, 1, 1, 1);
            board.deliver(0, 1);
            due.is("from the receiver", board.waiting(1, 2), 0);
            due.is("back", board.waiting(1, 0), 0);
        });
        checks.test(LINKS + "a lost message is not known to the receiver", due -> {
            Played board = new Played();
            Draw.dot(board, 0, 1, 1, 1, 1);
            board.lose(0, 1);
            due.is("known", board.siteInfo(1, 1), 0);
            due.is("strokes", board.siteInfo(1, 3), 0);
        });
    }

    private static void sizesOfSteps(Checks checks) {
        int[][] shortSteps = {{-4, 0}, {3, 0}, {0, -4}, {0, 3}, {-4, -4}, {3, 3}, {-4, 3}, {3, -4}, {0, 0}};
        for (int[] step : shortSteps) {
            sizeOfStep(checks, step, 1);
        }
        int[][] longSteps = {{-5, 0}, {4, 0}, {0, -5}, {0, 4}, {-5, -5}, {4, 4}, {-5, 4}, {4, -5},
            {-5, 3}, {4, -4}, {-4, -5}, {3, 4}, {-8, 0}, {8, 0}, {0, -8}, {0, 8}, {-8, -8}, {8, 8}};
        for (int[] step : longSteps) {
            sizeOfStep(checks, step, 2);
        }
    }

    private static void sizeOfStep(Checks checks, int[] step, int want) {
        checks.test(LINKS + "the size of a point at " + step[0] + ", " + step[1] + " is " + want, due -> {
            Played board = new Played();
            due.is("penUp", Draw.line(board, 0, step), 1);
            due.is("size", board.operation(0, 1, 2), 4 + want);
            due.is("transferred", board.transfer(1, 0), 4 + want);
        });
    }

    private static void sizes(Checks checks) {
        checks.test(LINKS + "the size of a STROKE of one point is 4", due -> {
            Played board = new Played();
            Draw.dot(board, 0, 63, 63, 7, 3);
            due.is("size", board.operation(0, 1, 2), 4);
        });
        checks.test(LINKS + "the size of a STROKE of 8 points is from 11 to 18", due -> {
            Played board = new Played();
            Draw.line(board, 0, 3, 3, 3, 3, 3, 3, 3, 3, 3, 3, 3, 3, 3, 3);
            Draw.line(board, 0, 4, 4, 4, 4, 4, 4, 4, 4, 4, 4, 4, 4, 4, 4);
            Draw.line(board, 0, 3, 3, 4, 4, 3, 3, 4, 4, 3, 3, 4, 4, 3, 3);
            due.is("the least", board.operation(0, 1, 2), 11);
            due.is("the greatest", board.operation(0, 2, 2), 18);
            due.is("four short and three long steps", board.operation(0, 3, 2), 14);
        });
        checks.test(LINKS + "the size of UNDO and REDO is 3, whatever the stroke's", due -> {
            Played board = new Played();
            Draw.line(board, 0, 8, 8, 8, 8, 8, 8);
            board.undo(0);
            board.redo(0);
            due.is("UNDO", board.operation(0, 2, 2), 3);
            due.is("REDO", board.operation(0, 3, 2), 3);
        });
        checks.test(LINKS + "the size of LIFT is 4, whatever the stroke's", due -> {
            Played board = new Played();
            Draw.line(board, 0, 8, 8, 8, 8, 8, 8);
            board.lift(0, 0, 3);
            due.is("LIFT", board.operation(0, 2, 2), 4);
        });
    }

    private static void noGaps(Checks checks) {
        checks.test(GAPS + "no operation known: none", due -> {
            Played board = Draw.withSites(5);
            Draw.dots(board, 0, 5);
            for (int author = 0; author < 5; author++) {
                due.is("gap(4, " + author + ", 0)", board.gap(4, author, 0), Checks.MISSING);
            }
        });
        checks.test(GAPS + "only number 1 known: none", due -> {
            Played board = new Played();
            Draw.dots(board, 0, 3);
            board.deliver(0, 1);
            due.is("gap", board.gap(1, 0, 0), Checks.MISSING);
        });
        checks.test(GAPS + "all numbers up to the greatest known: none, whatever comes after it", due -> {
            Played board = new Played();
            Draw.dots(board, 0, 9);
            Draw.deliverOnly(board, 0, 1, 1, 2, 3);
            due.is("gap", board.gap(1, 0, 0), Checks.MISSING);
        });
        checks.test(GAPS + "all 20 known: none", due -> {
            Played board = Draw.full();
            for (int author = 0; author < 5; author++) {
                due.is("gap", board.gap(4, author, 0), Checks.MISSING);
            }
        });
    }

    private static void gaps(Checks checks) {
        checks.test(GAPS + "a gap of one number, the first", due -> {
            Played board = new Played();
            Draw.dots(board, 0, 2);
            Draw.deliverOnly(board, 0, 1, 2);
            due.is("gap", board.gap(1, 0, 0), 101);
            due.is("no second one", board.gap(1, 0, 1), Checks.MISSING);
        });
        checks.test(GAPS + "a gap of one number between two known ones", due -> {
            Played board = new Played();
            Draw.dots(board, 0, 3);
            Draw.deliverOnly(board, 0, 1, 1, 3);
            due.is("gap", board.gap(1, 0, 0), 202);
            due.is("no second one", board.gap(1, 0, 1), Checks.MISSING);
        });
        checks.test(GAPS + "a gap of several numbers is one range, as large as can be", due -> {
            Played board = new Played();
            Draw.dots(board, 0, 10);
            Draw.deliverOnly(board, 0, 1, 1, 10);
            due.is("gap", board.gap(1, 0, 0), 209);
            due.is("no second one", board.gap(1, 0, 1), Checks.MISSING);
        });
        checks.test(GAPS + "a gap from 1 to 19, with 20 alone known", due -> {
            Played board = new Played();
            Draw.dots(board, 0, 10);
            Draw.deliverOnly(board, 0, 1);
            Draw.dots(board, 0, 10);
            Draw.deliverOnly(board, 0, 1, 10);
            due.is("gap", board.gap(1, 0, 0), 119);
        });
        checks.test(GAPS + "a gap becomes two by an operation within it", due -> {
            Played board = Draw.withSites(3);
            Draw.dots(board, 0, 5);
            Draw.deliverOnly(board, 0, 1, 5);
            Draw.deliverOnly(board, 0, 2, 3);
            due.is("one gap", board.gap(1, 0, 0), 104);
            due.is("repair", board.repair(1, 2), 1);
            due.is("the first", board.gap(1, 0, 0), 102);
            due.is("the second", board.gap(1, 0, 1), 404);
        });
    }

    private static void severalGaps(Checks checks) {
        checks.test(GAPS + "several gaps in ascending order", due -> {
            Played board = new Played();
            Draw.dots(board, 0, 10);
            Draw.deliverOnly(board, 0, 1, 2, 5, 6, 10);
            int[] want = {101, 304, 709, Checks.MISSING};
            for (int index = 0; index < want.length; index++) {
                due.is("gap " + index, board.gap(1, 0, index), want[index]);
            }
        });
        checks.test(GAPS + "the most gaps of one author, 10", due -> {
            Played board = new Played();
            for (int round = 0; round < 2; round++) {
                Draw.dots(board, 0, 10);
                Draw.deliverOnly(board, 0, 1, 2, 4, 6, 8, 10);
            }
            for (int index = 0; index < 10; index++) {
                due.is("gap " + index, board.gap(1, 0, index), 101 * (2 * index + 1));
            }
            due.is("gap 10", board.gap(1, 0, 10), Checks.MISSING);
        });
        checks.test(GAPS + "what is still under way to the site is in a gap", due -> {
            Played board = Draw.withSites(3);
            Draw.dots(board, 0, 3);
            Draw.deliverOnly(board, 0, 2, 3);
            board.transfer(1, 2);
            due.is("under way", board.waiting(0, 1), 3);
            due.is("gap", board.gap(1, 0, 0), 102);
            board.deliver(0, 1);
            due.is("gap, when the first has come", board.gap(1, 0, 0), 202);
            board.deliver(0, 1);
            due.is("gap, when both have come", board.gap(1, 0, 0), Checks.MISSING);
        });
        checks.test(GAPS + "each author has gaps of its own", due -> {
            Played board = Draw.withSites(3);
            Draw.dots(board, 0, 2);
            Draw.dots(board, 1, 4);
            Draw.deliverOnly(board, 0, 2, 2);
            Draw.deliverOnly(board, 1, 2, 1, 4);
            due.is("of 0", board.gap(2, 0, 0), 101);
            due.is("of 1", board.gap(2, 1, 0), 203);
            due.is("no more of 0", board.gap(2, 0, 1), Checks.MISSING);
        });
        checks.test(GAPS + "each site has gaps of its own", due -> {
            Played board = Draw.withSites(3);
            Draw.dots(board, 0, 3);
            Draw.deliverOnly(board, 0, 1, 3);
            Draw.deliverOnly(board, 0, 2, 1, 3);
            due.is("of 1", board.gap(1, 0, 0), 102);
            due.is("of 2", board.gap(2, 0, 0), 202);
            due.is("of 0", board.gap(0, 0, 0), Checks.MISSING);
        });
    }
}
