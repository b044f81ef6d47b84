/** Promises 19 to 24: operation, knows, stroke, strokeAt, digest, areSame. */
final class BoardTests {
    private BoardTests() {
    }

    static void all(Checks checks) {
        checks.test("promise 19: operation", BoardTests::operation);
        checks.test("promise 19: the size of a stroke", BoardTests::strokeSize);
        checks.test("promise 19: operation, wrong inputs", BoardTests::operationWrong);
        checks.test("promise 20: knows", BoardTests::knows);
        checks.test("promise 21: stroke", BoardTests::stroke);
        checks.test("promise 21: the order of a board", BoardTests::order);
        checks.test("promise 21: equal times", BoardTests::equalTimes);
        checks.test("promise 21: the last LIFT by times, then authors", BoardTests::lastLift);
        checks.test("promise 21: operations before their stroke", BoardTests::beforeStroke);
        checks.test("promise 21: stroke, wrong inputs", BoardTests::strokeWrong);
        checks.test("promise 22: strokeAt", BoardTests::strokeAt);
        checks.test("promise 22: strokeAt, wrong inputs", BoardTests::strokeAtWrong);
        checks.test("promise 23: digest", BoardTests::digest);
        checks.test("promise 24: areSame", BoardTests::areSame);
    }

    private static void operationIs(Checks due, Played board, int author, int number, int... want) {
        for (int what = 0; what <= 5; what++) {
            due.is("operation(" + author + ", " + number + ", " + what + ")",
                    board.operation(author, number, what), want[what]);
        }
    }

    private static void operation(Checks due) {
        Played board = new Played();
        board.penDown(0, 5, 6, 7, 2);
        board.penMove(0, 8, 0);
        board.penMove(0, 1, 1);
        board.penUp(0);
        Draw.dot(board, 0, 1, 1, 1, 1);
        board.deliverAll();
        board.lift(1, 1, 3);
        Draw.dot(board, 1, 1, 1, 1, 0);
        board.deliverAll();
        board.undo(0);
        board.redo(0);
        operationIs(due, board, 0, 1, StrokeBoard.STROKE, 1, 7, 3, 0, 2);
        operationIs(due, board, 0, 2, StrokeBoard.STROKE, 2, 4, 1, 0, 1);
        operationIs(due, board, 0, 3, StrokeBoard.UNDO, 5, 3, 2, 0, -1);
        operationIs(due, board, 0, 4, StrokeBoard.REDO, 6, 3, 2, 0, -1);
        operationIs(due, board, 1, 1, StrokeBoard.LIFT, 3, 4, 1, 0, 3);
        operationIs(due, board, 1, 2, StrokeBoard.STROKE, 4, 4, 1, 1, 0);
        board.undo(1);
        operationIs(due, board, 1, 3, StrokeBoard.UNDO, 5, 3, 2, 1, -1);
        Draw.dots(board, 1, 17);
        operationIs(due, board, 1, 20, StrokeBoard.STROKE, 22, 4, 1, 1, 0);
        due.is("number 21", board.operation(1, 21, 0), Checks.MISSING);
    }

    private static void strokeSize(Checks due) {
        Played board = new Played();
        sizeIs(due, board, 4);
        sizeIs(due, board, 5, 0, 0);
        sizeIs(due, board, 5, -4, -4);
        sizeIs(due, board, 5, 3, 3);
        sizeIs(due, board, 5, -4, 3);
        sizeIs(due, board, 6, -5, 0);
        sizeIs(due, board, 6, 0, -5);
        sizeIs(due, board, 6, 4, 0);
        sizeIs(due, board, 6, 0, 4);
        sizeIs(due, board, 6, 8, -8);
        sizeIs(due, board, 4 + 7, 1, 1, 1, 1, 1, 1, 1, 1, 1, 1, 1, 1, 1, 1);
        sizeIs(due, board, 4 + 14, 8, 1, 8, 1, 8, 1, 8, 1, 8, 1, 8, 1, 8, 1);
        sizeIs(due, board, 4 + 1 + 2 + 2 + 1, -4, 3, 4, -4, -5, 0, 0, 0);
    }

    private static void sizeIs(Checks due, Played board, int want, int... steps) {
        int number = Draw.line(board, 0, steps);
        due.is("size of stroke " + number, board.operation(0, number, 2), want);
    }

    private static void operationWrong(Checks due) {
        Played board = new Played();
        Draw.dots(board, 0, 2);
        due.unchanged("wrong operation", board, () -> {
            due.is("author -1", board.operation(-1, 1, 0), Checks.INVALID);
            due.is("author 2", board.operation(2, 1, 0), Checks.INVALID);
            due.is("number 0", board.operation(0, 0, 0), Checks.INVALID);
            due.is("number -1", board.operation(0, -1, 0), Checks.INVALID);
            due.is("what -1", board.operation(0, 1, -1), Checks.INVALID);
            due.is("what 6", board.operation(0, 1, 6), Checks.INVALID);
            due.is("what 6 of none", board.operation(0, 3, 6), Checks.INVALID);
            due.is("number 3", board.operation(0, 3, 0), Checks.MISSING);
            due.is("number 1 of none", board.operation(1, 1, 5), Checks.MISSING);
            due.is("number MAX", board.operation(0, Integer.MAX_VALUE, 0), Checks.MISSING);
            due.is("number MIN", board.operation(0, Integer.MIN_VALUE, 0), Checks.INVALID);
            for (int far : Checks.FAR) {
                due.is("far author", board.operation(far, 1, 0), Checks.INVALID);
                due.is("far what", board.operation(0, 1, far), Checks.INVALID);
            }
        });
    }

    private static void knows(Checks due) {
        Played board = Draw.withSites(3);
        Draw.dots(board, 0, 2);
        due.is("its own", board.knows(0, 0, 2), 1);
        due.is("not yet", board.knows(1, 0, 1), 0);
        board.deliver(0, 1);
        due.is("delivered", board.knows(1, 0, 1), 1);
        due.is("the next", board.knows(1, 0, 2), 0);
        due.is("another site", board.knows(2, 0, 1), 0);
        due.unchanged("wrong knows", board, () -> {
            due.is("site -1", board.knows(-1, 0, 1), Checks.INVALID);
            due.is("site 3", board.knows(3, 0, 1), Checks.INVALID);
            due.is("author -1", board.knows(0, -1, 1), Checks.INVALID);
            due.is("author 3", board.knows(0, 3, 1), Checks.INVALID);
            due.is("number 0", board.knows(0, 0, 0), Checks.INVALID);
            due.is("number 3", board.knows(0, 0, 3), Checks.MISSING);
            due.is("number 1 of none", board.knows(0, 1, 1), Checks.MISSING);
            due.is("number 21", board.knows(0, 0, 21), Checks.MISSING);
            due.is("number MAX", board.knows(0, 0, Integer.MAX_VALUE), Checks.MISSING);
            due.is("number MIN", board.knows(0, 0, Integer.MIN_VALUE), Checks.INVALID);
            for (int far : Checks.FAR) {
                due.is("far site", board.knows(far, 0, 1), Checks.INVALID);
                due.is("far author", board.knows(0, far, 1), Checks.INVALID);
            }
        });
        Draw.dots(board, 0, 18);
        due.is("number 20", board.knows(0, 0, 20), 1);
        due.is("number 20 elsewhere", board.knows(1, 0, 20), 0);
    }

    private static void stroke(Checks due) {
        Played board = Draw.withSites(5);
        Draw.dot(board, 4, 1, 1, 1, 0);
        board.penDown(4, 63, 0, 6, 1);
        for (int k = 0; k < 7; k++) {
            board.penMove(4, 1, -1);
        }
        board.penUp(4);
        board.deliver(4, 0);
        board.deliver(4, 0);
        int[] want = {4, 2, 1, 6, 8};
        for (int what = 0; what <= 4; what++) {
            due.is("stroke(0, 1, " + what + ")", board.stroke(0, 1, what), want[what]);
        }
        for (int k = 0; k < 8; k++) {
            due.is("x of point " + k, board.stroke(0, 1, 10 + 2 * k), 63 + k);
            due.is("y of point " + k, board.stroke(0, 1, 11 + 2 * k), -k);
        }
        due.is("x of a dot's second point", board.stroke(0, 0, 12), Checks.MISSING);
        due.is("y of a dot's second point", board.stroke(0, 0, 13), Checks.MISSING);
        due.is("y of a dot's eighth point", board.stroke(0, 0, 25), Checks.MISSING);
        due.is("y of a dot's point", board.stroke(0, 0, 11), 1);
        due.is("another site knows none", board.stroke(1, 0, 0), Checks.MISSING);
    }

    private static void strokesAre(Checks due, Played board, int site, int... want) {
        due.is("strokes of site " + site, board.siteInfo(site, 3), want.length);
        for (int place = 0; place < want.length; place++) {
            int got = 100 * board.stroke(site, place, 0) + board.stroke(site, place, 1);
            due.is("stroke " + place + " of site " + site, got, want[place]);
        }
    }

    private static void order(Checks due) {
        Played board = new Played();
        Draw.dot(board, 0, 0, 0, 0, 3);
        Draw.dot(board, 0, 0, 0, 0, 1);
        Draw.dot(board, 0, 0, 0, 0, 2);
        Draw.dot(board, 0, 0, 0, 0, 0);
        Draw.dot(board, 0, 0, 0, 0, 1);
        strokesAre(due, board, 0, 4, 2, 5, 3, 1);
        Draw.dot(board, 1, 0, 0, 0, 1);
        board.deliverAll();
        strokesAre(due, board, 0, 4, 101, 2, 5, 3, 1);
        board.undo(0);
        strokesAre(due, board, 0, 4, 101, 2, 3, 1);
        board.lift(0, 0, 3);
        strokesAre(due, board, 0, 101, 2, 3, 1, 4);
        due.is("the layer that was lifted to", board.stroke(0, 4, 2), 3);
        board.lift(0, 4, 1);
        strokesAre(due, board, 0, 101, 2, 4, 3, 1);
        due.is("the operation keeps its layer", board.operation(0, 4, 5), 0);
        board.deliverAll();
        strokesAre(due, board, 1, 101, 2, 4, 3, 1);
    }

    private static void equalTimes(Checks due) {
        Played board = Draw.withSites(3);
        Draw.dot(board, 2, 0, 0, 0, 0);
        Draw.dot(board, 0, 0, 0, 0, 0);
        Draw.dot(board, 1, 0, 0, 0, 0);
        Draw.dot(board, 0, 0, 0, 0, 0);
        board.deliverAll();
        for (int site = 0; site < 3; site++) {
            strokesAre(due, board, site, 1, 101, 201, 2);
        }
        Draw.dot(board, 1, 0, 0, 0, 0);
        Draw.dot(board, 0, 0, 0, 0, 0);
        board.deliverAll();
        strokesAre(due, board, 2, 1, 101, 201, 2, 3, 102);
        board.reset(3);
        Draw.dot(board, 2, 0, 0, 0, 0);
        board.deliver(2, 0);
        Draw.dot(board, 0, 0, 0, 0, 0);
        board.lose(2, 1);
        Draw.dot(board, 1, 0, 0, 0, 0);
        board.deliverAll();
        strokesAre(due, board, 0, 101, 201, 1);
    }

    private static void lastLift(Checks due) {
        Played board = Draw.withSites(3);
        Draw.dot(board, 0, 0, 0, 0, 0);
        board.deliverAll();
        board.lift(2, 0, 2);
        board.lift(1, 0, 1);
        due.is("its own LIFT", board.stroke(1, 0, 2), 1);
        board.deliver(2, 0);
        board.deliver(1, 0);
        due.is("equal times: the greater author's", board.stroke(0, 0, 2), 2);
        board.deliverAll();
        due.is("the same for all", board.differing(), 0);
        due.is("the greater author's for 1", board.stroke(1, 0, 2), 2);
        Draw.dots(board, 1, 2);
        board.lift(1, 0, 3);
        due.is("a later time", board.stroke(1, board.siteInfo(1, 3) - 1, 1), 2);
        due.is("a later time's layer", board.stroke(1, board.siteInfo(1, 3) - 1, 2), 3);
        board.lift(2, 0, 0);
        board.deliverAll();
        int last = board.siteInfo(2, 3) - 1;
        due.is("the LIFT of a later time though it came first", board.stroke(2, last, 2), 3);
    }

    private static void beforeStroke(Checks due) {
        Played board = Draw.withSites(4);
        Draw.dot(board, 0, 7, 7, 0, 0);
        board.deliver(0, 1);
        board.lift(1, 0, 3);
        board.undo(0);
        board.deliver(1, 2);
        board.lose(0, 2);
        board.deliver(0, 2);
        due.is("the stroke is not known", board.siteInfo(2, 3), 0);
        due.is("known operations", board.siteInfo(2, 1), 2);
        board.repair(2, 0);
        due.is("known and undone", board.siteInfo(2, 3), 0);
        board.redo(0);
        board.deliver(0, 2);
        due.is("known and redone", board.siteInfo(2, 3), 1);
        due.is("its layer", board.stroke(2, 0, 2), 3);
        due.is("the author does not know of the LIFT", board.stroke(0, 0, 2), 0);
        board.lose(0, 3);
        board.lose(0, 3);
        board.deliver(0, 3);
        due.is("a REDO alone shows nothing", board.siteInfo(3, 3), 0);
        due.is("REDO before UNDO", board.repair(3, 0), 2);
        due.is("shown", board.siteInfo(3, 3), 1);
    }

    private static void strokeWrong(Checks due) {
        Played board = new Played();
        Draw.dots(board, 0, 2);
        due.unchanged("wrong stroke", board, () -> {
            due.is("site -1", board.stroke(-1, 0, 0), Checks.INVALID);
            due.is("site 2", board.stroke(2, 0, 0), Checks.INVALID);
            due.is("place -1", board.stroke(0, -1, 0), Checks.INVALID);
            due.is("place 2", board.stroke(0, 2, 0), Checks.MISSING);
            due.is("place MAX", board.stroke(0, Integer.MAX_VALUE, 10), Checks.MISSING);
            due.is("place MIN", board.stroke(0, Integer.MIN_VALUE, 10), Checks.INVALID);
            due.is("what -1", board.stroke(0, 0, -1), Checks.INVALID);
            for (int what = 5; what <= 9; what++) {
                due.is("what " + what, board.stroke(0, 0, what), Checks.INVALID);
                due.is("what " + what + " of none", board.stroke(0, 2, what), Checks.INVALID);
            }
            due.is("what 26", board.stroke(0, 0, 26), Checks.INVALID);
            due.is("what 26 of none", board.stroke(1, 0, 26), Checks.INVALID);
            for (int far : Checks.FAR) {
                due.is("far site", board.stroke(far, 0, 0), Checks.INVALID);
                due.is("far what", board.stroke(0, 0, far), Checks.INVALID);
            }
        });
    }

    private static void strokeAt(Checks due) {
        Played board = new Played();
        due.is("an empty board", board.strokeAt(0, 0, 0), Checks.MISSING);
        board.penDown(0, 63, 0, 1, 1);
        for (int k = 0; k < 7; k++) {
            board.penMove(0, 8, -8);
        }
        board.penUp(0);
        due.is("its first point", board.strokeAt(0, 63, 0), 0);
        due.is("its last point", board.strokeAt(0, 63 + 56, -56), 0);
        due.is("beside it", board.strokeAt(0, 64, 0), Checks.MISSING);
        due.is("between points", board.strokeAt(0, 67, -4), Checks.MISSING);
        due.is("x and y changed about", board.strokeAt(0, 0, 63), Checks.MISSING);
        due.is("another site", board.strokeAt(1, 63, 0), Checks.MISSING);
        due.is("a place that no point has", board.strokeAt(0, 0, 0), Checks.MISSING);
        Draw.dot(board, 0, 63, 0, 2, 1);
        Draw.dot(board, 0, 63, 0, 3, 0);
        Draw.dot(board, 0, 1, 1, 3, 3);
        due.is("the uppermost", board.strokeAt(0, 63, 0), 2);
        due.is("its number", board.stroke(0, 2, 1), 2);
        due.is("a second point that the dots have not", board.strokeAt(0, 0, 0), Checks.MISSING);
        due.is("an undone one first", board.undo(0), 4);
        due.is("an undone one", board.strokeAt(0, 1, 1), Checks.MISSING);
        board.lift(0, 1, 3);
        due.is("the lifted one", board.stroke(0, board.strokeAt(0, 63, 0), 1), 1);
    }

    private static void strokeAtWrong(Checks due) {
        Played board = new Played();
        Draw.dot(board, 0, 0, 0, 0, 0);
        due.unchanged("wrong strokeAt", board, () -> {
            due.is("site -1", board.strokeAt(-1, 0, 0), Checks.INVALID);
            due.is("site 2", board.strokeAt(2, 0, 0), Checks.INVALID);
            due.is("x -101", board.strokeAt(0, -101, 0), Checks.INVALID);
            due.is("x 201", board.strokeAt(0, 201, 0), Checks.INVALID);
            due.is("y -101", board.strokeAt(0, 0, -101), Checks.INVALID);
            due.is("y 201", board.strokeAt(0, 0, 201), Checks.INVALID);
            due.is("x -100", board.strokeAt(0, -100, 0), Checks.MISSING);
            due.is("x 200", board.strokeAt(0, 200, 0), Checks.MISSING);
            due.is("y -100", board.strokeAt(0, 0, -100), Checks.MISSING);
            due.is("y 200", board.strokeAt(0, 0, 200), Checks.MISSING);
            for (int far : Checks.FAR) {
                due.is("far site", board.strokeAt(far, 0, 0), Checks.INVALID);
                due.is("far x", board.strokeAt(0, far, 0), Checks.INVALID);
                due.is("far y", board.strokeAt(0, 0, far), Checks.INVALID);
            }
        });
    }

    private static int hash(int... values) {
        int h = 17;
        for (int value : values) {
            h = 31 * h + value;
        }
        return h;
    }

    private static void digest(Checks due) {
        Played board = new Played();
        due.is("an empty board", board.digest(1), 17);
        due.is("digest(2)", board.digest(2), 0);
        due.is("digest(-1)", board.digest(-1), 0);
        for (int far : Checks.FAR) {
            due.is("digest(far)", board.digest(far), 0);
        }
        board.penDown(1, 3, 4, 5, 2);
        board.penMove(1, -8, 7);
        board.penUp(1);
        due.is("a stroke", board.digest(1), hash(1, 1, 2, 5, 3, 4, -5, 11));
        due.is("the other board", board.digest(0), 17);
        Draw.dot(board, 1, 9, 8, 7, 1);
        due.is("two strokes", board.digest(1), hash(1, 2, 1, 7, 9, 8, 1, 1, 2, 5, 3, 4, -5, 11));
        board.lift(1, 0, 3);
        due.is("lifted", board.digest(1), hash(1, 1, 2, 5, 3, 4, -5, 11, 1, 2, 3, 7, 9, 8));
        board.undo(1);
        due.is("undone", board.digest(1), hash(1, 1, 2, 5, 3, 4, -5, 11));
        board.undo(1);
        due.is("all undone", board.digest(1), 17);
    }

    private static void areSame(Checks due) {
        Played board = Draw.withSites(3);
        due.is("empty boards", board.areSame(0, 1), 1);
        due.is("a board and itself", board.areSame(2, 2), 1);
        Draw.dot(board, 0, 1, 1, 1, 1);
        due.is("one more stroke", board.areSame(0, 1), 0);
        due.is("changed about", board.areSame(1, 0), 0);
        due.is("two others", board.areSame(1, 2), 1);
        board.undo(0);
        due.is("undone: other operations, the same board", board.areSame(0, 1), 1);
        board.redo(0);
        board.deliverAll();
        due.is("delivered", board.areSame(0, 1), 1);
        board.lift(1, 0, 3);
        due.is("the same order, another layer", board.areSame(0, 1), 0);
        board.lift(1, 0, 1);
        due.is("lifted back", board.areSame(0, 1), 1);
        Draw.dot(board, 0, 2, 2, 2, 2);
        Draw.dot(board, 1, 2, 2, 2, 2);
        due.is("alike strokes of two authors", board.areSame(0, 1), 0);
        due.unchanged("wrong areSame", board, () -> {
            due.is("areSame(3, 0)", board.areSame(3, 0), Checks.INVALID);
            due.is("areSame(0, 3)", board.areSame(0, 3), Checks.INVALID);
            due.is("areSame(-1, -1)", board.areSame(-1, -1), Checks.INVALID);
            due.is("areSame(0, -1)", board.areSame(0, -1), Checks.INVALID);
            for (int far : Checks.FAR) {
                due.is("areSame(far, 0)", board.areSame(far, 0), Checks.INVALID);
                due.is("areSame(0, far)", board.areSame(0, far), Checks.INVALID);
            }
        });
    }
}
