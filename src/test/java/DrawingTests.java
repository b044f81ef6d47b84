/** Promises 6 to 11: penDown, penMove, penUp, undo, redo, lift. */
final class DrawingTests {
    private DrawingTests() {
    }

    static void all(Checks checks) {
        checks.test("promise 6: penDown", DrawingTests::penDown);
        checks.test("promise 6: penDown, wrong inputs", DrawingTests::penDownWrong);
        checks.test("promise 7: penMove", DrawingTests::penMove);
        checks.test("promise 7: penMove, wrong inputs", DrawingTests::penMoveWrong);
        checks.test("promise 8: penUp", DrawingTests::penUp);
        checks.test("promise 8: penUp, wrong inputs and 20 operations", DrawingTests::penUpWrong);
        checks.test("promise 9: undo", DrawingTests::undo);
        checks.test("promise 9: undo, wrong inputs and 20 operations", DrawingTests::undoWrong);
        checks.test("promise 9: undo by number, own strokes alone", DrawingTests::undoOwn);
        checks.test("promise 10: redo", DrawingTests::redo);
        checks.test("promise 10: redo takes the latest UNDO", DrawingTests::redoLatest);
        checks.test("promise 10: redo, wrong inputs and 20 operations", DrawingTests::redoWrong);
        checks.test("promise 11: lift", DrawingTests::lift);
        checks.test("promise 11: lift, wrong inputs and 20 operations", DrawingTests::liftWrong);
    }

    private static void penDown(Checks due) {
        Played board = new Played();
        due.is("penDown, smallest", board.penDown(0, 0, 0, 0, 0), 1);
        due.is("points", board.siteInfo(0, 4), 1);
        due.is("penMove", board.penMove(0, 1, 1), 2);
        due.is("penDown, greatest", board.penDown(0, 63, 63, 7, 3), 1);
        due.is("points are discarded", board.siteInfo(0, 4), 1);
        due.is("points of the other pen", board.siteInfo(1, 4), 0);
        due.is("operations", board.siteInfo(0, 2), 0);
        board.penUp(0);
        due.is("points of the stroke", board.stroke(0, 0, 4), 1);
        due.is("x", board.stroke(0, 0, 10), 63);
        due.is("y", board.stroke(0, 0, 11), 63);
        due.is("color", board.stroke(0, 0, 3), 7);
        due.is("layer", board.stroke(0, 0, 2), 3);
        board.penDown(0, 1, 2, 3, 1);
        board.penDown(1, 4, 5, 6, 2);
        board.penUp(0);
        due.is("x of the own pen", board.stroke(0, 0, 10), 1);
        due.is("y of the own pen", board.stroke(0, 0, 11), 2);
    }

    private static void penDownWrong(Checks due) {
        Played board = new Played();
        board.penDown(0, 7, 7, 1, 1);
        board.penMove(0, 2, 2);
        due.unchanged("wrong penDown", board, () -> {
            due.is("site -1", board.penDown(-1, 0, 0, 0, 0), Checks.INVALID);
            due.is("site 2", board.penDown(2, 0, 0, 0, 0), Checks.INVALID);
            due.is("x -1", board.penDown(0, -1, 0, 0, 0), Checks.INVALID);
            due.is("x 64", board.penDown(0, 64, 0, 0, 0), Checks.INVALID);
            due.is("y -1", board.penDown(0, 0, -1, 0, 0), Checks.INVALID);
            due.is("y 64", board.penDown(0, 0, 64, 0, 0), Checks.INVALID);
            due.is("color -1", board.penDown(0, 0, 0, -1, 0), Checks.INVALID);
            due.is("color 8", board.penDown(0, 0, 0, 8, 0), Checks.INVALID);
            due.is("layer -1", board.penDown(0, 0, 0, 0, -1), Checks.INVALID);
            due.is("layer 4", board.penDown(0, 0, 0, 0, 4), Checks.INVALID);
            for (int far : Checks.FAR) {
                due.is("far site", board.penDown(far, 0, 0, 0, 0), Checks.INVALID);
                due.is("far x", board.penDown(0, far, 0, 0, 0), Checks.INVALID);
                due.is("far y", board.penDown(0, 0, far, 0, 0), Checks.INVALID);
                due.is("far color", board.penDown(0, 0, 0, far, 0), Checks.INVALID);
                due.is("far layer", board.penDown(0, 0, 0, 0, far), Checks.INVALID);
            }
        });
        due.is("penUp", board.penUp(0), 1);
        due.is("the drawn points stay", board.stroke(0, 0, 13), 9);
        due.is("the color stays", board.stroke(0, 0, 3), 1);
    }

    private static void penMove(Checks due) {
        Played board = new Played();
        board.penDown(0, 0, 63, 0, 0);
        due.is("penMove(-8, 8)", board.penMove(0, -8, 8), 2);
        due.is("penMove(8, -8)", board.penMove(0, 8, -8), 3);
        due.is("penMove(0, 0)", board.penMove(0, 0, 0), 4);
        for (int count = 5; count <= 8; count++) {
            due.is("penMove(-3, 2)", board.penMove(0, -3, 2), count);
        }
        due.unchanged("penMove at 8 points", board, () -> {
            due.is("a ninth point", board.penMove(0, 1, 1), Checks.LIMIT);
            due.is("a ninth point, dx 9", board.penMove(0, 9, 1), Checks.INVALID);
        });
        due.is("penUp", board.penUp(0), 1);
        int[] xs = {0, -8, 0, 0, -3, -6, -9, -12};
        int[] ys = {63, 71, 63, 63, 65, 67, 69, 71};
        for (int k = 0; k < 8; k++) {
            due.is("x of point " + k, board.stroke(0, 0, 10 + 2 * k), xs[k]);
            due.is("y of point " + k, board.stroke(0, 0, 11 + 2 * k), ys[k]);
        }
    }

    private static void penMoveWrong(Checks due) {
        Played board = new Played();
        due.is("pen not down", board.penMove(0, 0, 0), Checks.IMPOSSIBLE);
        due.is("pen not down, dx 9", board.penMove(0, 9, 0), Checks.INVALID);
        board.penDown(0, 1, 1, 1, 1);
        due.is("the other pen", board.penMove(1, 0, 0), Checks.IMPOSSIBLE);
        due.unchanged("wrong penMove", board, () -> {
            due.is("site -1", board.penMove(-1, 0, 0), Checks.INVALID);
            due.is("site 2", board.penMove(2, 0, 0), Checks.INVALID);
            due.is("dx -9", board.penMove(0, -9, 0), Checks.INVALID);
            due.is("dx 9", board.penMove(0, 9, 0), Checks.INVALID);
            due.is("dy -9", board.penMove(0, 0, -9), Checks.INVALID);
            due.is("dy 9", board.penMove(0, 0, 9), Checks.INVALID);
            for (int far : Checks.FAR) {
                due.is("far site", board.penMove(far, 0, 0), Checks.INVALID);
                due.is("far dx", board.penMove(0, far, 0), Checks.INVALID);
                due.is("far dy", board.penMove(0, 0, far), Checks.INVALID);
            }
        });
        board.penUp(0);
        due.is("after penUp", board.penMove(0, 0, 0), Checks.IMPOSSIBLE);
    }

    private static void penUp(Checks due) {
        Played board = Draw.withSites(3);
        board.penDown(1, 3, 4, 5, 2);
        due.is("penUp(1)", board.penUp(1), 1);
        due.is("pen is up", board.siteInfo(1, 4), 0);
        due.is("penUp(1) again", board.penUp(1), Checks.IMPOSSIBLE);
        due.is("made", board.siteInfo(1, 2), 1);
        due.is("clock", board.siteInfo(1, 0), 1);
        due.is("kind", board.operation(1, 1, 0), StrokeBoard.STROKE);
        due.is("known to its author", board.knows(1, 1, 1), 1);
        due.is("known to another", board.knows(0, 1, 1), 0);
        due.is("waiting(1, 0)", board.waiting(1, 0), 1);
        due.is("waiting(1, 2)", board.waiting(1, 2), 1);
        due.is("waiting(0, 1)", board.waiting(0, 1), 0);
        due.is("a second stroke", Draw.dot(board, 1, 0, 0, 0, 0), 2);
        due.is("another site's first", Draw.dot(board, 0, 0, 0, 0, 0), 1);
    }

    private static void penUpWrong(Checks due) {
        Played board = new Played();
        due.is("penUp(-1)", board.penUp(-1), Checks.INVALID);
        due.is("penUp(2)", board.penUp(2), Checks.INVALID);
        for (int far : Checks.FAR) {
            due.is("penUp(far)", board.penUp(far), Checks.INVALID);
        }
        due.is("pen not down", board.penUp(0), Checks.IMPOSSIBLE);
        Draw.dots(board, 0, 19);
        due.is("the twentieth", Draw.dot(board, 0, 1, 1, 1, 1), 20);
        due.is("20 made, pen not down", board.penUp(0), Checks.IMPOSSIBLE);
        board.penDown(0, 2, 3, 4, 1);
        due.is("20 made, penMove", board.penMove(0, 1, 1), 2);
        due.unchanged("penUp with 20 made", board, () ->
                due.is("20 made", board.penUp(0), Checks.LIMIT));
        due.is("the pen stays down", board.siteInfo(0, 4), 2);
        due.is("another site makes its own 20", Draw.dot(board, 1, 0, 0, 0, 0), 1);
    }

    private static void undo(Checks due) {
        Played board = new Played();
        Draw.dots(board, 0, 2);
        due.is("undo(0)", board.undo(0), 2);
        due.is("kind", board.operation(0, 3, 0), StrokeBoard.UNDO);
        due.is("its stroke", board.operation(0, 3, 3), 2);
        due.is("time", board.operation(0, 3, 1), 3);
        due.is("strokes", board.siteInfo(0, 3), 1);
        due.is("clock", board.siteInfo(0, 0), 3);
        due.is("waiting(0, 1)", board.waiting(0, 1), 3);
        due.is("undo(0) again", board.undo(0), 1);
        due.is("strokes", board.siteInfo(0, 3), 0);
        due.unchanged("undo of nothing", board, () ->
                due.is("undo(0) of nothing", board.undo(0), Checks.IMPOSSIBLE));
        board.redo(0);
        due.is("undo after redo", board.undo(0), 1);
        due.is("its author shows it, the other site not yet", board.siteInfo(1, 3), 0);
        board.deliverAll();
        due.is("the other site in the end", board.siteInfo(1, 3), 0);
        due.is("the same", board.areSame(0, 1), 1);
    }

    private static void undoWrong(Checks due) {
        Played board = new Played();
        due.is("undo(-1)", board.undo(-1), Checks.INVALID);
        due.is("undo(2)", board.undo(2), Checks.INVALID);
        for (int far : Checks.FAR) {
            due.is("undo(far)", board.undo(far), Checks.INVALID);
        }
        due.is("nothing to undo", board.undo(0), Checks.IMPOSSIBLE);
        Draw.dots(board, 0, 19);
        due.is("the twentieth", board.undo(0), 19);
        due.unchanged("undo with 20 made", board, () ->
                due.is("20 made", board.undo(0), Checks.LIMIT));
        board.reset(2);
        Draw.dot(board, 1, 1, 1, 1, 1);
        for (int k = 0; k < 9; k++) {
            board.undo(1);
            board.redo(1);
        }
        due.is("the twentieth", board.undo(1), 1);
        due.is("20 made, nothing visible", board.undo(1), Checks.IMPOSSIBLE);
    }

    private static void undoOwn(Checks due) {
        Played board = new Played();
        Draw.dot(board, 0, 1, 1, 0, 3);
        Draw.dot(board, 0, 2, 2, 0, 0);
        Draw.dot(board, 1, 3, 3, 0, 0);
        board.deliverAll();
        due.is("by numbers, not by places", board.undo(0), 2);
        due.is("the next by numbers", board.undo(0), 1);
        due.is("the other's stroke is not undone", board.undo(0), Checks.IMPOSSIBLE);
        due.is("it stays on the board", board.siteInfo(0, 3), 1);
        due.is("its author undoes it", board.undo(1), 1);
        due.is("the author has no more", board.undo(1), Checks.IMPOSSIBLE);
        due.is("before the UNDO arrives", board.siteInfo(0, 3), 1);
        board.deliverAll();
        due.is("after it arrived", board.siteInfo(0, 3), 0);
    }

    private static void redo(Checks due) {
        Played board = new Played();
        Draw.dots(board, 0, 3);
        due.is("nothing was undone", board.redo(0), Checks.IMPOSSIBLE);
        board.undo(0);
        board.undo(0);
        due.is("redo(0)", board.redo(0), 2);
        due.is("kind", board.operation(0, 6, 0), StrokeBoard.REDO);
        due.is("its stroke", board.operation(0, 6, 3), 2);
        due.is("time", board.operation(0, 6, 1), 6);
        due.is("strokes", board.siteInfo(0, 3), 2);
        due.is("waiting(0, 1)", board.waiting(0, 1), 6);
        due.is("redo(0) again", board.redo(0), 3);
        due.is("strokes", board.siteInfo(0, 3), 3);
        due.unchanged("redo of nothing", board, () ->
                due.is("redo(0) of nothing", board.redo(0), Checks.IMPOSSIBLE));
        due.is("another site has none", board.redo(1), Checks.IMPOSSIBLE);
        board.deliverAll();
        due.is("the same", board.areSame(0, 1), 1);
        due.is("another site has none of its own", board.redo(1), Checks.IMPOSSIBLE);
    }

    private static void redoLatest(Checks due) {
        Played board = new Played();
        Draw.dots(board, 0, 2);
        due.is("undo 2", board.undo(0), 2);
        due.is("undo 1", board.undo(0), 1);
        due.is("redo 1", board.redo(0), 1);
        due.is("a third stroke", Draw.dot(board, 0, 9, 9, 1, 1), 6);
        due.is("undo 6", board.undo(0), 6);
        due.is("undo 1 again", board.undo(0), 1);
        due.is("the latest UNDO is of 1", board.redo(0), 1);
        due.is("then 6", board.redo(0), 6);
        due.is("then 2", board.redo(0), 2);
        due.is("then none", board.redo(0), Checks.IMPOSSIBLE);
        due.is("strokes", board.siteInfo(0, 3), 3);
    }

    private static void redoWrong(Checks due) {
        Played board = new Played();
        due.is("redo(-1)", board.redo(-1), Checks.INVALID);
        due.is("redo(2)", board.redo(2), Checks.INVALID);
        for (int far : Checks.FAR) {
            due.is("redo(far)", board.redo(far), Checks.INVALID);
        }
        Draw.dots(board, 0, 20);
        due.is("20 made, nothing undone", board.redo(0), Checks.IMPOSSIBLE);
        board.reset(2);
        Draw.dots(board, 0, 18);
        board.undo(0);
        due.is("the twentieth", board.redo(0), 18);
        board.reset(2);
        Draw.dots(board, 0, 19);
        board.undo(0);
        due.unchanged("redo with 20 made", board, () ->
                due.is("20 made", board.redo(0), Checks.LIMIT));
    }

    private static void lift(Checks due) {
        Played board = Draw.withSites(3);
        Draw.dot(board, 0, 1, 1, 1, 0);
        Draw.dot(board, 0, 2, 2, 2, 0);
        board.deliverAll();
        due.is("lift(1, 0, 3)", board.lift(1, 0, 3), 1);
        due.is("kind", board.operation(1, 1, 0), StrokeBoard.LIFT);
        due.is("its stroke's number", board.operation(1, 1, 3), 1);
        due.is("its stroke's author", board.operation(1, 1, 4), 0);
        due.is("its layer", board.operation(1, 1, 5), 3);
        due.is("its time", board.operation(1, 1, 1), 3);
        due.is("the stroke is the last now", board.stroke(1, 1, 1), 1);
        due.is("its layer there", board.stroke(1, 1, 2), 3);
        due.is("not yet for another site", board.stroke(2, 0, 1), 1);
        due.is("messages", board.deliverAll(), 2);
        due.is("then for it too", board.stroke(2, 1, 1), 1);
        due.is("to the same layer", board.lift(1, 1, 3), 2);
        due.is("the last place", board.lift(2, 1, 0), 1);
        due.is("down again", board.stroke(2, 0, 2), 0);
        board.undo(0);
        due.is("the lifted one's place with the other undone", board.lift(0, 0, 2), 4);
        due.is("its stroke", board.operation(0, 4, 3), 1);
    }

    private static void liftWrong(Checks due) {
        Played board = new Played();
        due.is("an empty board", board.lift(0, 0, 0), Checks.IMPOSSIBLE);
        Draw.dots(board, 0, 19);
        due.unchanged("wrong lift", board, () -> {
            due.is("site -1", board.lift(-1, 0, 0), Checks.INVALID);
            due.is("site 2", board.lift(2, 0, 0), Checks.INVALID);
            due.is("place -1", board.lift(0, -1, 0), Checks.INVALID);
            due.is("layer -1", board.lift(0, 0, -1), Checks.INVALID);
            due.is("layer 4", board.lift(0, 0, 4), Checks.INVALID);
            due.is("place 19", board.lift(0, 19, 0), Checks.IMPOSSIBLE);
            due.is("place 19, layer 4", board.lift(0, 19, 4), Checks.INVALID);
            due.is("place MAX", board.lift(0, Integer.MAX_VALUE, 0), Checks.IMPOSSIBLE);
            due.is("place MIN", board.lift(0, Integer.MIN_VALUE, 0), Checks.INVALID);
            for (int far : Checks.FAR) {
                due.is("far site", board.lift(far, 0, 0), Checks.INVALID);
                due.is("far layer", board.lift(0, 0, far), Checks.INVALID);
            }
        });
        due.is("the twentieth", board.lift(0, 18, 3), 20);
        due.unchanged("lift with 20 made", board, () -> {
            due.is("20 made", board.lift(0, 0, 0), Checks.LIMIT);
            due.is("20 made, place 19", board.lift(0, 19, 0), Checks.IMPOSSIBLE);
            due.is("20 made, place -1", board.lift(0, -1, 0), Checks.INVALID);
        });
    }
}
