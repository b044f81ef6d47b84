/** The sections "What it is" and "Sites and operations": each sentence that names a boundary. */
final class OperationEdges {
    private static final String USE = "section 'What it is': ";
    private static final String OPERATIONS = "section 'Sites and operations': ";

    private interface OfSite {
        int ask(Played board, int site);
    }

    private OperationEdges() {
    }

    static void all(Checks checks) {
        fewCalls(checks);
        manyQuestions(checks);
        manyCalls(checks);
        sites(checks);
        siteNumbers(checks);
        numbers(checks);
        strokes(checks);
        changes(checks);
        clock(checks);
        clockOfReceiver(checks);
        order(checks);
        orderOfEqualTimes(checks);
    }

    private static void fewCalls(Checks checks) {
        checks.test(USE + "the 512th call is a penUp as any other", due -> {
            Played board = new Played();
            for (int call = 1; call <= 511; call++) {
                due.is("penDown", board.penDown(1, call % 64, 5, 6, 1), 1);
            }
            due.is("the 512th call", board.penUp(1), 1);
            due.is("calls left", board.callsLeft(), 0);
        });
        checks.test(USE + "512 calls of reset", due -> {
            Played board = new Played();
            int previous = 2;
            for (int call = 1; call <= 512; call++) {
                due.is("reset", board.reset(1 + call % 5), previous);
                previous = 1 + call % 5;
            }
        });
        checks.test(USE + "511 refused calls and one that is taken", due -> {
            Played board = new Played();
            for (int call = 1; call <= 511; call++) {
                due.is("penMove", board.penMove(0, 1, 1), Checks.IMPOSSIBLE);
            }
            due.is("the 512th call", board.penDown(0, 63, 63, 7, 3), 1);
        });
        checks.test(USE + "512 questions with the same answer", due -> {
            Played board = new Played();
            for (int call = 1; call <= 512; call++) {
                due.is("digest(1)", board.digest(1), 17);
            }
        });
    }

    private static void manyQuestions(Checks checks) {
        String[] names = {"sites", "siteInfo", "waiting", "gap", "operation", "knows", "stroke",
            "strokeAt", "digest", "areSame", "differing", "bestHelper", "endangered"};
        Edges.Call[] questions = {Played::sites, on -> on.siteInfo(0, 3), on -> on.waiting(0, 2),
            on -> on.gap(1, 0, 0), on -> on.operation(0, 8, 3), on -> on.knows(1, 0, 2),
            on -> on.stroke(0, 1, 2), on -> on.strokeAt(0, 2, 2), on -> on.digest(0),
            on -> on.areSame(0, 1), Played::differing, on -> on.bestHelper(1), on -> on.endangered(0)};
        for (int k = 0; k < names.length; k++) {
            Edges.Call question = questions[k];
            checks.test(USE + names[k] + " answers the same up to the 512th call", due -> {
                Played board = Draw.busy();
                int answer = question.on(board);
                while (board.callsLeft() > 0) {
                    due.is("the answer", question.on(board), answer);
                }
            });
        }
    }

    private static void manyCalls(Checks checks) {
        checks.test(USE + "all 100 operations made, given to all and asked for in 512 calls", due -> {
            Played board = Draw.full();
            for (int site = 0; site < 4; site++) {
                due.is("transfer", board.transfer(site, 4), (4 - site) * 20 * 4);
            }
            due.is("differing()", board.differing(), 0);
            for (int author = 0; author < 5; author++) {
                for (int number = 1; number <= 20; number++) {
                    due.is("the time", board.operation(author, number, 1), 20 * author + number);
                    due.is("known to 0", board.knows(0, author, number), 1);
                }
            }
            due.is("messages", board.deliverAll(), 200);
            int digest = board.digest(0);
            for (int site = 0; board.callsLeft() > 1; site = (site + 1) % 5) {
                due.is("digest(" + site + ")", board.digest(site), digest);
            }
            due.is("the 512th call", board.siteInfo(3, 1), 100);
            due.is("calls left", board.callsLeft(), 0);
        });
        checks.test(USE + "128 times a stroke is drawn and all starts anew", due -> {
            Played board = new Played();
            for (int round = 1; round <= 128; round++) {
                due.is("penDown", board.penDown(0, 1, 1, 1, 1), 1);
                due.is("penUp", board.penUp(0), 1);
                due.is("deliver", board.deliver(0, 1), 1);
                due.is("reset", board.reset(2), 2);
            }
            due.is("calls left", board.callsLeft(), 0);
        });
    }

    private static void sites(Checks checks) {
        checks.test(OPERATIONS + "initially 2 sites", due -> due.is("sites()", new Played().sites(), 2));
        checks.test(OPERATIONS + "1 site draws, undoes, redoes and lifts", due -> {
            Played board = Draw.withSites(1);
            due.is("penUp", Draw.dot(board, 0, 1, 1, 1, 1), 1);
            due.is("undo", board.undo(0), 1);
            due.is("redo", board.redo(0), 1);
            due.is("lift", board.lift(0, 0, 3), 4);
            due.is("strokes", board.siteInfo(0, 3), 1);
            due.is("site 1", board.siteInfo(1, 0), Checks.INVALID);
        });
        checks.test(OPERATIONS + "5 sites send to each other", due -> {
            Played board = Draw.withSites(5);
            for (int from = 0; from < 5; from++) {
                Draw.dot(board, from, 1, 1, 1, 1);
                for (int to = 0; to < 5; to++) {
                    due.is("waiting", board.waiting(from, to), from == to ? Checks.INVALID : 1);
                }
            }
            due.is("deliverAll()", board.deliverAll(), 20);
            due.is("known to the last one", board.siteInfo(4, 1), 5);
        });
    }

    /** Each method with a site refuses -1 and the number after the last site's, for 1 to 5 sites. */
    private static void siteNumbers(Checks checks) {
        String[] names = {"siteInfo", "penDown", "penMove", "penUp", "undo", "redo", "lift", "gap",
            "gap's author", "operation", "knows", "knows' author", "stroke", "strokeAt", "areSame a",
            "areSame b", "bestHelper", "endangered"};
        OfSite[] methods = {(on, site) -> on.siteInfo(site, 0),
            (on, site) -> on.penDown(site, 1, 1, 1, 1), (on, site) -> on.penMove(site, 1, 1),
            Played::penUp, Played::undo, Played::redo, (on, site) -> on.lift(site, 0, 0),
            (on, site) -> on.gap(site, 0, 0), (on, site) -> on.gap(0, site, 0),
            (on, site) -> on.operation(site, 1, 0), (on, site) -> on.knows(site, 0, 1),
            (on, site) -> on.knows(0, site, 1), (on, site) -> on.stroke(site, 0, 0),
            (on, site) -> on.strokeAt(site, 1, 1), (on, site) -> on.areSame(site, 0),
            (on, site) -> on.areSame(0, site), Played::bestHelper, Played::endangered};
        for (int count = 1; count <= 5; count++) {
            int sites = count;
            checks.test(OPERATIONS + "sites are numbered from 0, with " + sites + " of them", due -> {
                Played board = Draw.withSites(sites);
                for (int k = 0; k < methods.length; k++) {
                    due.is(names[k] + " of -1", methods[k].ask(board, -1), Checks.INVALID);
                    due.is(names[k] + " of " + sites, methods[k].ask(board, sites), Checks.INVALID);
                    due.holds(names[k] + " of 0", methods[k].ask(board, 0) != Checks.INVALID);
                    due.holds(names[k] + " of the last", methods[k].ask(board, sites - 1) != Checks.INVALID);
                }
            });
        }
    }

    private static void numbers(Checks checks) {
        checks.test(OPERATIONS + "numbers begin with 1 and ascend by 1 over all kinds", due -> {
            Played board = new Played();
            due.is("STROKE", Draw.dot(board, 0, 1, 1, 1, 1), 1);
            board.undo(0);
            due.is("UNDO is 2", board.operation(0, 2, 0), StrokeBoard.UNDO);
            board.redo(0);
            due.is("REDO is 3", board.operation(0, 3, 0), StrokeBoard.REDO);
            due.is("LIFT", board.lift(0, 0, 2), 4);
            due.is("STROKE", Draw.dot(board, 0, 1, 1, 1, 1), 5);
            due.is("no operation 6", board.operation(0, 6, 0), Checks.MISSING);
        });
        checks.test(OPERATIONS + "each author has numbers of its own", due -> {
            Played board = Draw.withSites(5);
            Draw.dots(board, 0, 3);
            board.deliverAll();
            for (int site = 1; site < 5; site++) {
                due.is("the first of " + site, Draw.dot(board, site, 1, 1, 1, 1), 1);
            }
            due.is("the fourth of 0", Draw.dot(board, 0, 1, 1, 1, 1), 4);
        });
        checks.test(OPERATIONS + "each of five authors makes 20, no more", due -> {
            Played board = Draw.full();
            for (int site = 0; site < 5; site++) {
                due.is("the twentieth", board.operation(site, 20, 0), StrokeBoard.STROKE);
                due.is("undo", board.undo(site), Checks.LIMIT);
                due.is("lift", board.lift(site, 0, 0), Checks.LIMIT);
                due.is("made", board.siteInfo(site, 2), 20);
            }
        });
        checks.test(OPERATIONS + "refused calls use up no number", due -> {
            Played board = new Played();
            board.undo(0);
            board.redo(0);
            board.penUp(0);
            board.lift(0, 0, 0);
            due.is("the first", Draw.dot(board, 0, 1, 1, 1, 1), 1);
        });
    }

    private static void strokes(Checks checks) {
        for (int color = 0; color <= 7; color += 7) {
            int value = color;
            checks.test(OPERATIONS + "a STROKE of color " + value, due -> {
                Played board = new Played();
                due.is("penUp", Draw.dot(board, 0, 1, 1, value, 1), 1);
                due.is("color", board.stroke(0, 0, 3), value);
            });
        }
        for (int layer = 0; layer <= 3; layer++) {
            int value = layer;
            checks.test(OPERATIONS + "a STROKE in layer " + value, due -> {
                Played board = new Played();
                due.is("penUp", Draw.dot(board, 0, 1, 1, 1, value), 1);
                due.is("layer", board.operation(0, 1, 5), value);
            });
        }
        for (int count = 1; count <= 8; count += 7) {
            int points = count;
            checks.test(OPERATIONS + "a STROKE of " + points + " points", due -> {
                Played board = new Played();
                due.is("penUp", Draw.line(board, 0, new int[2 * (points - 1)]), 1);
                due.is("points", board.operation(0, 1, 3), points);
                due.is("points on the board", board.stroke(0, 0, 4), points);
            });
        }
        int[][] steps = {{-8, -8}, {-8, 8}, {8, -8}, {8, 8}};
        for (int[] step : steps) {
            checks.test(OPERATIONS + "a point at the distance " + step[0] + ", " + step[1], due -> {
                Played board = new Played();
                Draw.line(board, 0, step[0], step[1], step[0], step[1]);
                due.is("x of the second", board.stroke(0, 0, 12), 20 + step[0]);
                due.is("y of the second", board.stroke(0, 0, 13), 20 + step[1]);
                due.is("x of the third", board.stroke(0, 0, 14), 20 + 2 * step[0]);
                due.is("y of the third", board.stroke(0, 0, 15), 20 + 2 * step[1]);
            });
        }
    }

    private static void changes(Checks checks) {
        checks.test(OPERATIONS + "UNDO and REDO are for a stroke of the same author", due -> {
            Played board = new Played();
            Draw.dots(board, 0, 3);
            board.deliverAll();
            Draw.dot(board, 1, 1, 1, 1, 1);
            due.is("undo", board.undo(1), 1);
            due.is("the author of UNDO's stroke", board.operation(1, 2, 4), 1);
            due.is("redo", board.redo(1), 1);
            due.is("the author of REDO's stroke", board.operation(1, 3, 4), 1);
            due.is("strokes", board.siteInfo(1, 3), 4);
        });
        checks.test(OPERATIONS + "LIFT is for a stroke of any author", due -> {
            Played board = Draw.withSites(5);
            Draw.dot(board, 4, 1, 1, 1, 1);
            board.deliverAll();
            for (int site = 0; site < 5; site++) {
                board.lift(site, 0, 3);
                int number = board.siteInfo(site, 2);
                due.is("its author", board.operation(site, number, 4), 4);
                due.is("its number", board.operation(site, number, 3), 1);
            }
        });
        for (int layer = 0; layer <= 3; layer++) {
            int value = layer;
            checks.test(OPERATIONS + "a LIFT to layer " + value, due -> {
                Played board = new Played();
                Draw.dot(board, 0, 1, 1, 1, 3 - value);
                due.is("lift", board.lift(0, 0, value), 2);
                due.is("its layer", board.operation(0, 2, 5), value);
            });
        }
    }

    private static void clock(Checks checks) {
        checks.test(OPERATIONS + "the clock is 0 at first", due -> {
            Played board = Draw.withSites(5);
            for (int site = 0; site < 5; site++) {
                due.is("clock of " + site, board.siteInfo(site, 0), 0);
            }
        });
        checks.test(OPERATIONS + "each kind of operation lets the clock grow by 1", due -> {
            Played board = new Played();
            Draw.dot(board, 0, 1, 1, 1, 1);
            due.is("STROKE", board.siteInfo(0, 0), 1);
            board.undo(0);
            due.is("UNDO", board.siteInfo(0, 0), 2);
            board.redo(0);
            due.is("REDO", board.siteInfo(0, 0), 3);
            board.lift(0, 0, 2);
            due.is("LIFT", board.siteInfo(0, 0), 4);
            for (int number = 1; number <= 4; number++) {
                due.is("the time of " + number, board.operation(0, number, 1), number);
            }
        });
        checks.test(OPERATIONS + "neither the pen nor a refused call moves a clock", due -> {
            Played board = Draw.twenty();
            int clock = board.siteInfo(0, 0);
            board.penDown(0, 1, 1, 1, 1);
            board.penMove(0, 1, 1);
            board.penUp(0);
            board.undo(0);
            board.redo(0);
            board.lift(0, 0, 0);
            due.is("clock", board.siteInfo(0, 0), clock);
            due.is("the other one", board.siteInfo(1, 0), 0);
        });
        checks.test(OPERATIONS + "the greatest time, 100", due -> {
            Played board = Draw.full();
            due.is("the last operation's time", board.operation(4, 20, 1), 100);
            due.is("its author's clock", board.siteInfo(4, 0), 100);
        });
    }

    private static void clockOfReceiver(Checks checks) {
        checks.test(OPERATIONS + "a clock becomes the greater time of what is received", due -> {
            Played board = new Played();
            Draw.dots(board, 0, 3);
            Draw.deliverOnly(board, 0, 1, 3);
            due.is("clock", board.siteInfo(1, 0), 3);
            Draw.dot(board, 1, 1, 1, 1, 1);
            due.is("the next time", board.operation(1, 1, 1), 4);
        });
        checks.test(OPERATIONS + "a clock stays with an equal time", due -> {
            Played board = new Played();
            Draw.dot(board, 0, 1, 1, 1, 1);
            Draw.dot(board, 1, 1, 1, 1, 1);
            board.deliver(0, 1);
            due.is("clock", board.siteInfo(1, 0), 1);
        });
        checks.test(OPERATIONS + "a clock stays with a smaller time", due -> {
            Played board = new Played();
            Draw.dot(board, 0, 1, 1, 1, 1);
            Draw.dots(board, 1, 3);
            board.deliver(0, 1);
            due.is("clock", board.siteInfo(1, 0), 3);
        });
        checks.test(OPERATIONS + "a clock moves by deliver, deliverAll, repair and transfer alike", due -> {
            Played board = Draw.withSites(5);
            Draw.dots(board, 0, 2);
            board.deliver(0, 1);
            due.is("deliver", board.siteInfo(1, 0), 1);
            board.transfer(2, 0);
            due.is("transfer", board.siteInfo(2, 0), 2);
            Draw.deliverOnly(board, 0, 3, 2);
            board.repair(3, 0);
            due.is("repair", board.siteInfo(3, 0), 2);
            board.deliverAll();
            due.is("deliverAll", board.siteInfo(4, 0), 2);
        });
        checks.test(OPERATIONS + "a lost message and one under way move no clock", due -> {
            Played board = new Played();
            Draw.dots(board, 0, 2);
            due.is("under way", board.siteInfo(1, 0), 0);
            board.lose(0, 1);
            due.is("lost", board.siteInfo(1, 0), 0);
        });
    }

    private static void numbersAre(Checks due, Played board, int site, int... want) {
        due.is("strokes of " + site, board.siteInfo(site, 3), want.length);
        for (int place = 0; place < want.length; place++) {
            due.is("stroke " + place + " of " + site,
                    100 * board.stroke(site, place, 0) + board.stroke(site, place, 1), want[place]);
        }
    }

    private static void order(Checks checks) {
        checks.test(OPERATIONS + "the order is by times, a smaller one of a greater author first", due -> {
            Played board = new Played();
            Draw.dots(board, 1, 1);
            board.deliver(1, 0);
            Draw.dot(board, 0, 1, 1, 1, 0);
            board.deliver(0, 1);
            numbersAre(due, board, 0, 101, 1);
            numbersAre(due, board, 1, 101, 1);
        });
        checks.test(OPERATIONS + "the order is by times, not by what was made first", due -> {
            Played board = Draw.withSites(3);
            Draw.dot(board, 2, 1, 1, 1, 0);
            board.deliver(2, 0);
            Draw.dot(board, 0, 1, 1, 1, 0);
            Draw.dot(board, 1, 1, 1, 1, 0);
            due.is("the time of the one made last", board.operation(1, 1, 1), 1);
            board.deliverAll();
            for (int site = 0; site < 3; site++) {
                numbersAre(due, board, site, 101, 201, 1);
            }
        });
        checks.test(OPERATIONS + "the order of LIFTs is by times, not by what was made first", due -> {
            Played board = new Played();
            Draw.dot(board, 0, 1, 1, 1, 0);
            board.deliver(0, 1);
            board.undo(0);
            board.redo(0);
            board.lift(0, 0, 2);
            board.lift(1, 0, 3);
            due.is("the time of the one made last", board.operation(1, 1, 1), 2);
            board.deliverAll();
            for (int site = 0; site < 2; site++) {
                due.is("the layer for " + site, board.stroke(site, 0, 2), 2);
            }
        });
        checks.test(OPERATIONS + "the order is not by numbers", due -> {
            Played board = new Played();
            for (int k = 0; k < 2; k++) {
                Draw.dot(board, 0, 1, 1, 1, 0);
            }
            board.transfer(1, 0);
            Draw.dot(board, 1, 1, 1, 1, 0);
            board.transfer(0, 1);
            numbersAre(due, board, 0, 1, 2, 101);
        });
        checks.test(OPERATIONS + "times 9 and 10 are ordered as numbers", due -> {
            Played board = new Played();
            for (int k = 0; k < 11; k++) {
                Draw.dot(board, 0, 1, 1, 1, 0);
            }
            numbersAre(due, board, 0, 1, 2, 3, 4, 5, 6, 7, 8, 9, 10, 11);
        });
    }

    private static void orderOfEqualTimes(Checks checks) {
        checks.test(OPERATIONS + "for equal times the order is by authors, of all five", due -> {
            Played board = Draw.withSites(5);
            int[] drawn = {3, 0, 4, 2, 1};
            for (int site : drawn) {
                Draw.dot(board, site, 1, 1, 1, 0);
            }
            board.deliverAll();
            for (int site = 0; site < 5; site++) {
                numbersAre(due, board, site, 1, 101, 201, 301, 401);
            }
        });
        checks.test(OPERATIONS + "for equal times a greater number of a smaller author comes first", due -> {
            Played board = new Played();
            Draw.dot(board, 0, 1, 1, 1, 0);
            board.undo(0);
            Draw.dot(board, 0, 1, 1, 1, 0);
            Draw.deliverOnly(board, 0, 1, 2);
            Draw.dot(board, 1, 1, 1, 1, 0);
            due.is("the time of 0's second stroke", board.operation(0, 3, 1), 3);
            due.is("the time of 1's first stroke", board.operation(1, 1, 1), 3);
            board.transfer(1, 0);
            board.transfer(0, 1);
            numbersAre(due, board, 0, 3, 101);
            numbersAre(due, board, 1, 3, 101);
        });
        checks.test(OPERATIONS + "of LIFTs with equal times the greatest author's is the last", due -> {
            Played board = Draw.withSites(5);
            Draw.dot(board, 0, 1, 1, 1, 1);
            board.deliverAll();
            int[] lifting = {4, 1, 3, 2};
            for (int site : lifting) {
                board.lift(site, 0, site - 1);
                due.is("the time", board.operation(site, 1, 1), 2);
            }
            board.deliverAll();
            for (int site = 0; site < 5; site++) {
                due.is("the layer for " + site, board.stroke(site, 0, 2), 3);
            }
        });
    }
}
