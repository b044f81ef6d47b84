/** Promises 19 to 24: each sentence that names a boundary. */
final class BoardEdges {
    private BoardEdges() {
    }

    static void all(Checks checks) {
        operation(checks);
        operationValues(checks);
        knows(checks);
        stroke(checks);
        strokePoints(checks);
        strokeAt(checks);
        strokeAtUppermost(checks);
        digest(checks);
        areSame(checks);
    }

    /** A stroke of 8 points and, above it, one of a single point. */
    private static Played eightAndOne() {
        Played board = new Played();
        board.penDown(0, 63, 0, 6, 1);
        for (int k = 0; k < 7; k++) {
            board.penMove(0, 8, -8);
        }
        board.penUp(0);
        Draw.dot(board, 0, 2, 3, 7, 2);
        return board;
    }

    private static void operation(Checks checks) {
        Edges.range(checks, "promise 19: operation, author from 0 to the last site", Draw::busy,
                (board, value) -> board.operation(value, 2, 0), 0, StrokeBoard.STROKE, 2, StrokeBoard.LIFT);
        Edges.range(checks, "promise 19: operation, number from 1 on", Draw::busy,
                (board, value) -> board.operation(0, value, 1), 1, 1, Integer.MAX_VALUE, Checks.MISSING);
        Edges.range(checks, "promise 19: operation, what from 0 to 5", Draw::busy,
                (board, value) -> board.operation(0, 8, value), 0, StrokeBoard.LIFT, 5, 2);
        Edges.refused(checks, "promise 19: operation, the number after the last one", Draw::busy,
                board -> board.operation(0, 9, 0), Checks.MISSING);
        Edges.refused(checks, "promise 19: operation, of an author that has made none", Played::new,
                board -> board.operation(1, 1, 0), Checks.MISSING);
        checks.test("promise 19: operation, the last number, 20, and the one after it", due -> {
            Played board = Draw.full();
            due.is("operation(4, 20, 1)", board.operation(4, 20, 1), 100);
            due.is("operation(4, 21, 1)", board.operation(4, 21, 1), Checks.MISSING);
        });
        checks.test("promise 19: operation, after reset there is none", due -> {
            Played board = Draw.busy();
            board.reset(3);
            due.is("operation(0, 1, 0)", board.operation(0, 1, 0), Checks.MISSING);
        });
    }

    private static void valuesAre(Checks due, Played board, int author, int number, int... want) {
        for (int what = 0; what <= 5; what++) {
            due.is("operation(" + author + ", " + number + ", " + what + ")",
                    board.operation(author, number, what), want[what]);
        }
    }

    private static void operationValues(Checks checks) {
        checks.test("promise 19: operation, each value of a STROKE of 1 point", due ->
                valuesAre(due, eightAndOne(), 0, 2, StrokeBoard.STROKE, 2, 4, 1, 0, 2));
        checks.test("promise 19: operation, each value of a STROKE of 8 points", due ->
                valuesAre(due, eightAndOne(), 0, 1, StrokeBoard.STROKE, 1, 4 + 7 * 2, 8, 0, 1));
        checks.test("promise 19: operation, each value of an UNDO, its layer is -1", due ->
                valuesAre(due, Draw.busy(), 0, 5, StrokeBoard.UNDO, 5, 3, 4, 0, -1));
        checks.test("promise 19: operation, each value of a REDO, its layer is -1", due ->
                valuesAre(due, Draw.busy(), 0, 6, StrokeBoard.REDO, 6, 3, 4, 0, -1));
        checks.test("promise 19: operation, each value of a LIFT", due ->
                valuesAre(due, Draw.busy(), 0, 8, StrokeBoard.LIFT, 8, 4, 1, 0, 2));
        checks.test("promise 19: operation, each value of a LIFT of another author's stroke", due -> {
            Played board = Draw.withSites(3);
            Draw.dots(board, 2, 3);
            board.transfer(0, 2);
            board.lift(0, 2, 0);
            valuesAre(due, board, 0, 1, StrokeBoard.LIFT, 4, 4, 3, 2, 0);
        });
        checks.test("promise 19: operation, the layer of a STROKE stays when it is lifted", due -> {
            Played board = Draw.busy();
            due.is("on the board", board.stroke(0, 1, 2), 2);
            due.is("of the operation", board.operation(0, 1, 5), 0);
        });
    }

    private static void knows(Checks checks) {
        Edges.range(checks, "promise 20: knows, site from 0 to the last one", Draw::busy,
                (board, value) -> board.knows(value, 0, 2), 0, 1, 2, 0);
        Edges.range(checks, "promise 20: knows, author from 0 to the last site", Draw::busy,
                (board, value) -> board.knows(1, value, 1), 0, 0, 2, 0);
        Edges.range(checks, "promise 20: knows, number from 1 on", Draw::busy,
                (board, value) -> board.knows(0, 0, value), 1, 1, Integer.MAX_VALUE, Checks.MISSING);
        Edges.refused(checks, "promise 20: knows, the number after the last one", Draw::busy,
                board -> board.knows(0, 0, 9), Checks.MISSING);
        Edges.refused(checks, "promise 20: knows, of an author that has made none", Played::new,
                board -> board.knows(0, 1, 1), Checks.MISSING);
        checks.test("promise 20: knows, the last number, 20, and the one after it", due -> {
            Played board = Draw.full();
            due.is("the author", board.knows(3, 3, 20), 1);
            due.is("a later site", board.knows(4, 3, 20), 1);
            due.is("an earlier site", board.knows(2, 3, 20), 0);
            due.is("21", board.knows(4, 3, 21), Checks.MISSING);
        });
        checks.test("promise 20: knows, before and after the delivery", due -> {
            Played board = Draw.busy();
            due.is("before", board.knows(1, 0, 3), 0);
            board.deliver(0, 1);
            due.is("after", board.knows(1, 0, 3), 1);
            due.is("the next one", board.knows(1, 0, 4), 0);
        });
    }

    private static void stroke(Checks checks) {
        Edges.range(checks, "promise 21: stroke, site from 0 to the last one", Draw::busy,
                (board, value) -> board.stroke(value, 0, 0), 0, 0, 2, 2);
        Edges.range(checks, "promise 21: stroke, place from 0 on", Draw::busy,
                (board, value) -> board.stroke(0, value, 1), 0, 2, Integer.MAX_VALUE, Checks.MISSING);
        Edges.range(checks, "promise 21: stroke, what from 0 to 25", BoardEdges::eightAndOne,
                (board, value) -> board.stroke(0, 0, value), 0, 0, 25, -56);
        checks.test("promise 21: stroke, what 4 and 10 are taken, 5 to 9 are not", due -> {
            Played board = eightAndOne();
            due.is("what 4", board.stroke(0, 0, 4), 8);
            due.is("what 10", board.stroke(0, 0, 10), 63);
            due.unchanged("what 5 to 9", board, () -> {
                for (int what = 5; what <= 9; what++) {
                    due.is("what " + what, board.stroke(0, 0, what), Checks.INVALID);
                }
            });
        });
        checks.test("promise 21: stroke, the last place and the one after it", due -> {
            Played board = Draw.busy();
            due.is("the last place", board.stroke(0, 2, 1), 3);
            due.is("the place after it", board.stroke(0, 3, 1), Checks.MISSING);
        });
        Edges.refused(checks, "promise 21: stroke, an empty board", Played::new,
                board -> board.stroke(0, 0, 0), Checks.MISSING);
        Edges.refused(checks, "promise 21: stroke, a board whose stroke is undone", Draw::twentyUndone,
                board -> board.stroke(0, 0, 0), Checks.MISSING);
        checks.test("promise 21: stroke, the last of 100", due -> {
            Played board = Draw.full();
            due.is("author", board.stroke(4, 99, 0), 4);
            due.is("number", board.stroke(4, 99, 1), 20);
            due.is("layer", board.stroke(4, 99, 2), 3);
            due.is("place 100", board.stroke(4, 100, 0), Checks.MISSING);
        });
    }

    private static void strokePoints(Checks checks) {
        checks.test("promise 21: stroke, each value of the first four", due -> {
            Played board = eightAndOne();
            int[][] want = {{0, 1, 1, 6, 8}, {0, 2, 2, 7, 1}};
            for (int place = 0; place < 2; place++) {
                for (int what = 0; what <= 4; what++) {
                    due.is("stroke(0, " + place + ", " + what + ")",
                            board.stroke(0, place, what), want[place][what]);
                }
            }
        });
        checks.test("promise 21: stroke, all of 8 points", due -> {
            Played board = eightAndOne();
            for (int k = 0; k < 8; k++) {
                due.is("x of point " + k, board.stroke(0, 0, 10 + 2 * k), 63 + 8 * k);
                due.is("y of point " + k, board.stroke(0, 0, 11 + 2 * k), -8 * k);
            }
        });
        checks.test("promise 21: stroke, one point and no second one", due -> {
            Played board = eightAndOne();
            due.is("x", board.stroke(0, 1, 10), 2);
            due.is("y", board.stroke(0, 1, 11), 3);
            for (int what = 12; what <= 25; what++) {
                due.is("what " + what, board.stroke(0, 1, what), Checks.MISSING);
            }
        });
        checks.test("promise 21: stroke, the layer is the one for this site", due -> {
            Played board = new Played();
            Draw.dot(board, 0, 1, 1, 1, 1);
            board.deliver(0, 1);
            board.lift(0, 0, 3);
            due.is("where the LIFT is known", board.stroke(0, 0, 2), 3);
            due.is("where it is not", board.stroke(1, 0, 2), 1);
        });
    }

    private static void strokeAt(Checks checks) {
        Edges.range(checks, "promise 22: strokeAt, site from 0 to the last one", Draw::busy,
                (board, value) -> board.strokeAt(value, 20, 20), 0, Checks.MISSING, 2, 0);
        Edges.range(checks, "promise 22: strokeAt, x from -100 to 200", Draw::busy,
                (board, value) -> board.strokeAt(0, value, 1), -100, Checks.MISSING, 200, Checks.MISSING);
        Edges.range(checks, "promise 22: strokeAt, y from -100 to 200", Draw::busy,
                (board, value) -> board.strokeAt(0, 1, value), -100, Checks.MISSING, 200, Checks.MISSING);
        Edges.refused(checks, "promise 22: strokeAt, an empty board", Played::new,
                board -> board.strokeAt(0, 0, 0), Checks.MISSING);
        Edges.refused(checks, "promise 22: strokeAt, an undone stroke", Draw::twentyUndone,
                board -> board.strokeAt(0, 5, 5), Checks.MISSING);
        Edges.refused(checks, "promise 22: strokeAt, points that are still at the pen", Draw::busy,
                board -> board.strokeAt(0, 10, 20), Checks.MISSING);
        checks.test("promise 22: strokeAt, the first and the last of 8 points", due -> {
            Played board = eightAndOne();
            due.is("the first", board.strokeAt(0, 63, 0), 0);
            due.is("the last", board.strokeAt(0, 63 + 56, -56), 0);
            due.is("a ninth", board.strokeAt(0, 63 + 64, -64), Checks.MISSING);
        });
        checks.test("promise 22: strokeAt, places beside a point", due -> {
            Played board = new Played();
            Draw.dot(board, 0, 5, 9, 1, 1);
            due.is("the point", board.strokeAt(0, 5, 9), 0);
            int[][] beside = {{4, 9}, {6, 9}, {5, 8}, {5, 10}, {9, 5}};
            for (int[] place : beside) {
                due.is("beside it", board.strokeAt(0, place[0], place[1]), Checks.MISSING);
            }
        });
        checks.test("promise 22: strokeAt, a place that no point of a short stroke has", due -> {
            Played board = new Played();
            Draw.dot(board, 0, 5, 9, 1, 1);
            due.is("strokeAt(0, 0, 0)", board.strokeAt(0, 0, 0), Checks.MISSING);
        });
        checks.test("promise 22: strokeAt, the farthest points, -56 and 119", due -> {
            Played board = new Played();
            int[] steps = {-8, 8, -8, 8, -8, 8, -8, 8, -8, 8, -8, 8, -8, 8};
            board.penDown(0, 0, 63, 0, 0);
            for (int k = 0; k + 1 < steps.length; k += 2) {
                board.penMove(0, steps[k], steps[k + 1]);
            }
            board.penUp(0);
            due.is("strokeAt(0, -56, 119)", board.strokeAt(0, -56, 119), 0);
        });
    }

    private static void strokeAtUppermost(Checks checks) {
        checks.test("promise 22: strokeAt, the last of several in one layer", due -> {
            Played board = new Played();
            for (int k = 0; k < 5; k++) {
                Draw.dot(board, 0, 7, 7, k, 2);
            }
            due.is("strokeAt", board.strokeAt(0, 7, 7), 4);
        });
        checks.test("promise 22: strokeAt, a greater layer lies above a later stroke", due -> {
            Played board = new Played();
            Draw.dot(board, 0, 7, 7, 0, 3);
            Draw.dot(board, 0, 7, 7, 0, 0);
            due.is("strokeAt", board.strokeAt(0, 7, 7), 1);
            due.is("its number", board.stroke(0, 1, 1), 1);
        });
        checks.test("promise 22: strokeAt, the lowest place when no upper stroke has the point", due -> {
            Played board = new Played();
            Draw.dot(board, 0, 7, 7, 0, 0);
            Draw.dot(board, 0, 8, 8, 0, 3);
            due.is("strokeAt", board.strokeAt(0, 7, 7), 0);
        });
    }

    private static void digest(Checks checks) {
        checks.test("promise 23: digest, 0 if there is no such site", due -> {
            Played board = Draw.busy();
            int[] none = {-1, 3, 4, 5, Integer.MIN_VALUE, Integer.MAX_VALUE};
            due.unchanged("digest of no site", board, () -> {
                for (int site : none) {
                    due.is("digest(" + site + ")", board.digest(site), 0);
                }
            });
        });
        checks.test("promise 23: digest, the first and the last site", due -> {
            Played board = Draw.withSites(5);
            due.is("digest(0)", board.digest(0), 17);
            due.is("digest(4)", board.digest(4), 17);
            due.is("digest(5)", board.digest(5), 0);
        });
        checks.test("promise 23: digest is of the site's own board", due -> {
            Played board = new Played();
            Draw.dot(board, 0, 1, 2, 3, 1);
            due.is("of the board that is empty", board.digest(1), 17);
            board.deliver(0, 1);
            due.is("of the same boards", board.digest(1), board.digest(0));
        });
    }

    private static void areSame(Checks checks) {
        Edges.range(checks, "promise 24: areSame, a from 0 to the last site", Draw::busy,
                (board, value) -> board.areSame(value, 2), 0, 0, 2, 1);
        Edges.range(checks, "promise 24: areSame, b from 0 to the last site", Draw::busy,
                (board, value) -> board.areSame(0, value), 0, 1, 2, 0);
        checks.test("promise 24: areSame, a site and itself", due -> {
            Played board = Draw.busy();
            for (int site = 0; site < 3; site++) {
                due.is("areSame", board.areSame(site, site), 1);
            }
        });
        checks.test("promise 24: areSame, two empty boards", due ->
                due.is("areSame(0, 1)", new Played().areSame(0, 1), 1));
        checks.test("promise 24: areSame, an empty board and one with a stroke", due -> {
            Played board = new Played();
            Draw.dot(board, 1, 1, 1, 1, 1);
            due.is("areSame(0, 1)", board.areSame(0, 1), 0);
            due.is("areSame(1, 0)", board.areSame(1, 0), 0);
        });
        checks.test("promise 24: areSame, a board that begins as the other one", due -> {
            Played board = new Played();
            Draw.dots(board, 0, 2);
            board.deliver(0, 1);
            due.is("areSame(0, 1)", board.areSame(0, 1), 0);
            due.is("areSame(1, 0)", board.areSame(1, 0), 0);
            board.deliver(0, 1);
            due.is("with the second stroke", board.areSame(0, 1), 1);
        });
        checks.test("promise 24: areSame, the same strokes in the same order, one in another layer", due -> {
            Played board = new Played();
            Draw.dots(board, 0, 2);
            board.deliverAll();
            board.lift(1, 1, 3);
            due.is("areSame", board.areSame(0, 1), 0);
            board.deliverAll();
            due.is("with the LIFT", board.areSame(0, 1), 1);
        });
        checks.test("promise 24: areSame, other operations, but the same strokes", due -> {
            Played board = new Played();
            Draw.dots(board, 0, 2);
            board.deliverAll();
            board.undo(0);
            board.redo(0);
            board.lift(0, 0, 0);
            due.is("areSame", board.areSame(0, 1), 1);
        });
        checks.test("promise 24: areSame, strokes that look alike, of two authors", due -> {
            Played board = new Played();
            Draw.dot(board, 0, 1, 1, 1, 1);
            Draw.dot(board, 1, 1, 1, 1, 1);
            due.is("areSame", board.areSame(0, 1), 0);
        });
        checks.test("promise 24: areSame, strokes that look alike, with two numbers", due -> {
            Played board = new Played();
            Draw.dot(board, 0, 1, 1, 1, 1);
            Draw.dot(board, 0, 1, 1, 1, 1);
            board.deliver(0, 1);
            board.undo(0);
            due.is("the same stroke on both", board.areSame(0, 1), 1);
            board.reset(2);
            Draw.dot(board, 0, 1, 1, 1, 1);
            Draw.dot(board, 0, 1, 1, 1, 1);
            board.lose(0, 1);
            board.deliver(0, 1);
            board.undo(0);
            due.is("1 on the one, 2 on the other", board.areSame(0, 1), 0);
        });
    }
}
