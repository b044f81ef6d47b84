/** Promises 6 to 11: each sentence that names a boundary. */
final class DrawingEdges {
    private DrawingEdges() {
    }

    static void all(Checks checks) {
        penDown(checks);
        penDownDiscards(checks);
        penMove(checks);
        penUp(checks);
        undo(checks);
        undoNothing(checks);
        redo(checks);
        redoNothing(checks);
        lift(checks);
        liftEnds(checks);
    }

    /** Each site has one stroke, and has undone it. */
    private static Played undone() {
        Played board = Draw.withSites(3);
        for (int site = 0; site < 3; site++) {
            Draw.dot(board, site, site, site, site, site);
            board.undo(site);
        }
        return board;
    }

    private static Played eightPoints() {
        Played board = new Played();
        board.penDown(0, 3, 4, 5, 1);
        for (int k = 0; k < 7; k++) {
            board.penMove(0, 1, -1);
        }
        return board;
    }

    private static void penDown(Checks checks) {
        Edges.range(checks, "promise 6: penDown, site from 0 to the last one", Draw::busy,
                (board, value) -> board.penDown(value, 1, 2, 3, 0), 0, 1, 2, 1);
        Edges.range(checks, "promise 6: penDown, x from 0 to 63", Draw::busy,
                (board, value) -> board.penDown(1, value, 2, 3, 0), 0, 1, 63, 1);
        Edges.range(checks, "promise 6: penDown, y from 0 to 63", Draw::busy,
                (board, value) -> board.penDown(1, 1, value, 3, 0), 0, 1, 63, 1);
        Edges.range(checks, "promise 6: penDown, color from 0 to 7", Draw::busy,
                (board, value) -> board.penDown(1, 1, 2, value, 0), 0, 1, 7, 1);
        Edges.range(checks, "promise 6: penDown, layer from 0 to 3", Draw::busy,
                (board, value) -> board.penDown(1, 1, 2, 3, value), 0, 1, 3, 1);
        int[][] corners = {{0, 0}, {0, 63}, {63, 0}, {63, 63}};
        for (int[] corner : corners) {
            checks.test("promise 6: penDown in the corner " + corner[0] + ", " + corner[1], due -> {
                Played board = new Played();
                due.is("penDown", board.penDown(0, corner[0], corner[1], 0, 0), 1);
                board.penUp(0);
                due.is("x", board.stroke(0, 0, 10), corner[0]);
                due.is("y", board.stroke(0, 0, 11), corner[1]);
            });
        }
        checks.test("promise 6: penDown with 20 operations made", due -> {
            Played board = Draw.twentyUndone();
            due.is("penDown", board.penDown(0, 1, 1, 1, 1), 1);
            due.is("points", board.siteInfo(0, 4), 1);
        });
    }

    private static void penDownDiscards(Checks checks) {
        checks.test("promise 6: penDown with the pen down discards its points", due -> {
            Played board = eightPoints();
            due.is("penDown", board.penDown(0, 40, 41, 0, 0), 1);
            due.is("points", board.siteInfo(0, 4), 1);
            board.penUp(0);
            due.is("points of the stroke", board.stroke(0, 0, 4), 1);
            due.is("x", board.stroke(0, 0, 10), 40);
            due.is("y", board.stroke(0, 0, 11), 41);
            due.is("no second point", board.stroke(0, 0, 12), Checks.MISSING);
        });
        checks.test("promise 6: penDown with the pen down discards its color and layer", due -> {
            Played board = eightPoints();
            board.penDown(0, 40, 41, 7, 3);
            board.penUp(0);
            due.is("color", board.stroke(0, 0, 3), 7);
            due.is("layer", board.stroke(0, 0, 2), 3);
        });
        checks.test("promise 6: what penDown discards becomes no operation", due -> {
            Played board = eightPoints();
            board.penDown(0, 40, 41, 7, 3);
            due.is("made", board.siteInfo(0, 2), 0);
            due.is("clock", board.siteInfo(0, 0), 0);
            due.is("messages", board.waiting(0, 1), 0);
            due.is("the number of the first operation", board.penUp(0), 1);
        });
        checks.test("promise 6: penDown leaves the other pens", due -> {
            Played board = eightPoints();
            board.penDown(1, 1, 1, 1, 1);
            due.is("points of pen 0", board.siteInfo(0, 4), 8);
            board.penUp(1);
            due.is("points of pen 0", board.siteInfo(0, 4), 8);
            board.penUp(0);
            due.is("x", board.stroke(0, 0, 10), 3);
        });
    }

    private static void penMove(Checks checks) {
        Edges.range(checks, "promise 7: penMove, site from 0 to the last one", Draw::busy,
                (board, value) -> board.penMove(value, 1, 1), 0, 3, 2, 3);
        Edges.range(checks, "promise 7: penMove, dx from -8 to 8", Draw::busy,
                (board, value) -> board.penMove(1, value, 1), -8, 3, 8, 3);
        Edges.range(checks, "promise 7: penMove, dy from -8 to 8", Draw::busy,
                (board, value) -> board.penMove(1, 1, value), -8, 3, 8, 3);
        Edges.refused(checks, "promise 7: penMove with a pen that was never down", Played::new,
                board -> board.penMove(0, 1, 1), Checks.IMPOSSIBLE);
        checks.test("promise 7: penMove after penUp", due -> {
            Played board = eightPoints();
            board.penUp(0);
            due.is("penMove", board.penMove(0, 1, 1), Checks.IMPOSSIBLE);
        });
        checks.test("promise 7: penMove while another site's pen is down", due ->
                due.is("penMove", eightPoints().penMove(1, 1, 1), Checks.IMPOSSIBLE));
        checks.test("promise 7: penMove counts from 2 to 8 points", due -> {
            Played board = new Played();
            board.penDown(0, 1, 1, 1, 1);
            for (int count = 2; count <= 8; count++) {
                due.is("penMove", board.penMove(0, 0, 0), count);
            }
        });
        Edges.refused(checks, "promise 7: penMove with 8 points", DrawingEdges::eightPoints,
                board -> board.penMove(0, 1, 1), Checks.LIMIT);
        checks.test("promise 7: penMove adds no ninth point", due -> {
            Played board = eightPoints();
            board.penMove(0, 2, 2);
            board.penUp(0);
            due.is("points", board.stroke(0, 0, 4), 8);
            due.is("x of the last one", board.stroke(0, 0, 24), 3 + 7);
            due.is("y of the last one", board.stroke(0, 0, 25), 4 - 7);
        });
        checks.test("promise 7: penMove beyond 0 and 63, to the farthest points", due -> {
            Played board = new Played();
            board.penDown(0, 0, 63, 0, 0);
            for (int k = 0; k < 7; k++) {
                board.penMove(0, -8, 8);
            }
            board.penUp(0);
            due.is("the least x", board.stroke(0, 0, 24), -56);
            due.is("the greatest y", board.stroke(0, 0, 25), 119);
        });
    }

    private static void penUp(Checks checks) {
        Edges.range(checks, "promise 8: penUp, site from 0 to the last one", Draw::busy,
                Played::penUp, 0, 9, 2, 3);
        Edges.refused(checks, "promise 8: penUp with a pen that was never down", Played::new,
                board -> board.penUp(1), Checks.IMPOSSIBLE);
        checks.test("promise 8: penUp twice", due -> {
            Played board = eightPoints();
            due.is("penUp", board.penUp(0), 1);
            due.unchanged("penUp again", board, () ->
                    due.is("penUp again", board.penUp(0), Checks.IMPOSSIBLE));
        });
        checks.test("promise 8: penUp after one point", due -> {
            Played board = new Played();
            board.penDown(0, 1, 1, 1, 1);
            due.is("penUp", board.penUp(0), 1);
            due.is("points", board.operation(0, 1, 3), 1);
        });
        checks.test("promise 8: penUp after eight points", due -> {
            Played board = eightPoints();
            due.is("penUp", board.penUp(0), 1);
            due.is("points", board.operation(0, 1, 3), 8);
        });
        checks.test("promise 8: penUp makes the twentieth operation, no more", due -> {
            Played board = new Played();
            Draw.dots(board, 0, 19);
            due.is("the twentieth", Draw.dot(board, 0, 1, 1, 1, 1), 20);
            due.is("another one", Draw.dot(board, 0, 1, 1, 1, 1), Checks.LIMIT);
            due.is("made", board.siteInfo(0, 2), 20);
            due.is("the other site's first", Draw.dot(board, 1, 1, 1, 1, 1), 1);
        });
        Edges.refused(checks, "promise 8: penUp with 20 operations made", Draw::twenty,
                board -> board.penUp(0), Checks.LIMIT);
        checks.test("promise 8: penUp with 20 operations made leaves the pen down", due -> {
            Played board = Draw.twenty();
            board.penUp(0);
            due.is("points", board.siteInfo(0, 4), 2);
            due.is("penMove goes on", board.penMove(0, 1, 1), 3);
        });
    }

    private static void undo(Checks checks) {
        Edges.range(checks, "promise 9: undo, site from 0 to the last one", Draw::busy,
                Played::undo, 0, 3, 2, 1);
        checks.test("promise 9: undo takes the last one by numbers, not by the order of the board", due -> {
            Played board = new Played();
            Draw.dot(board, 0, 1, 1, 1, 3);
            Draw.dot(board, 0, 1, 1, 1, 0);
            due.is("undo", board.undo(0), 2);
            due.is("undo again", board.undo(0), 1);
        });
        checks.test("promise 9: undo passes over a stroke that is not visible", due -> {
            Played board = Draw.busy();
            due.is("4 is undone already", board.undo(0), 3);
        });
        checks.test("promise 9: undo takes a redone stroke again", due -> {
            Played board = undone();
            board.redo(1);
            due.is("undo", board.undo(1), 1);
            due.is("strokes", board.siteInfo(1, 3), 0);
        });
        checks.test("promise 9: undo makes the twentieth operation, no more", due -> {
            Played board = new Played();
            Draw.dots(board, 0, 19);
            due.is("undo", board.undo(0), 19);
            due.is("the twentieth's kind", board.operation(0, 20, 0), StrokeBoard.UNDO);
            due.is("undo again", board.undo(0), Checks.LIMIT);
        });
        Edges.refused(checks, "promise 9: undo with 20 operations made", Draw::twenty,
                board -> board.undo(0), Checks.LIMIT);
    }

    private static void undoNothing(Checks checks) {
        Edges.refused(checks, "promise 9: undo with no operation made", Played::new,
                board -> board.undo(0), Checks.IMPOSSIBLE);
        Edges.refused(checks, "promise 9: undo with all own strokes undone", DrawingEdges::undone,
                board -> board.undo(0), Checks.IMPOSSIBLE);
        Edges.refused(checks, "promise 9: undo with points that are still at the pen",
                DrawingEdges::eightPoints, board -> board.undo(0), Checks.IMPOSSIBLE);
        checks.test("promise 9: undo with no own operation beside another site's twenty", due -> {
            Played board = new Played();
            Draw.dots(board, 0, 20);
            board.transfer(1, 0);
            due.unchanged("undo", board, () -> due.is("undo(1)", board.undo(1), Checks.IMPOSSIBLE));
        });
        checks.test("promise 9: undo with another site's stroke alone", due -> {
            Played board = new Played();
            Draw.dot(board, 0, 1, 1, 1, 1);
            board.deliver(0, 1);
            board.lift(1, 0, 3);
            due.unchanged("undo", board, () -> due.is("undo(1)", board.undo(1), Checks.IMPOSSIBLE));
        });
    }

    private static void redo(Checks checks) {
        Edges.range(checks, "promise 10: redo, site from 0 to the last one", DrawingEdges::undone,
                Played::redo, 0, 1, 2, 1);
        checks.test("promise 10: redo takes the latest UNDO's stroke, not the last one by numbers", due -> {
            Played board = new Played();
            Draw.dots(board, 0, 2);
            board.undo(0);
            board.undo(0);
            due.is("redo", board.redo(0), 1);
            due.is("redo again", board.redo(0), 2);
        });
        checks.test("promise 10: redo passes over an UNDO whose stroke is visible now", due -> {
            Played board = new Played();
            Draw.dots(board, 0, 2);
            board.undo(0);
            board.undo(0);
            board.redo(0);
            due.is("the UNDO of 1 is later, but 1 is visible", board.redo(0), 2);
        });
        checks.test("promise 10: redo takes the latest of several UNDOs of one stroke", due -> {
            Played board = new Played();
            Draw.dots(board, 0, 2);
            board.undo(0);
            board.redo(0);
            due.is("undo", board.undo(0), 2);
            due.is("undo", board.undo(0), 1);
            board.redo(0);
            board.redo(0);
            due.is("2 again", board.undo(0), 2);
            due.is("redo", board.redo(0), 2);
            due.is("no more", board.redo(0), Checks.IMPOSSIBLE);
        });
        checks.test("promise 10: redo makes the twentieth operation, no more", due -> {
            Played board = new Played();
            Draw.dots(board, 0, 17);
            board.undo(0);
            board.undo(0);
            due.is("redo", board.redo(0), 16);
            due.is("the twentieth's kind", board.operation(0, 20, 0), StrokeBoard.REDO);
            due.is("redo again", board.redo(0), Checks.LIMIT);
        });
        Edges.refused(checks, "promise 10: redo with 20 operations made", Draw::twenty,
                board -> board.redo(0), Checks.LIMIT);
    }

    private static void redoNothing(Checks checks) {
        Edges.refused(checks, "promise 10: redo with no operation made", Played::new,
                board -> board.redo(0), Checks.IMPOSSIBLE);
        checks.test("promise 10: redo with strokes that were never undone", due -> {
            Played board = new Played();
            Draw.dots(board, 0, 3);
            due.unchanged("redo", board, () -> due.is("redo", board.redo(0), Checks.IMPOSSIBLE));
        });
        checks.test("promise 10: redo with all undone strokes redone", due -> {
            Played board = undone();
            due.is("redo", board.redo(2), 1);
            due.unchanged("redo again", board, () ->
                    due.is("redo again", board.redo(2), Checks.IMPOSSIBLE));
        });
        checks.test("promise 10: redo with no own operation beside another site's twenty", due -> {
            Played board = Draw.twenty();
            board.transfer(1, 0);
            due.is("the twentieth is an UNDO", board.operation(0, 20, 0), StrokeBoard.UNDO);
            due.unchanged("redo", board, () -> due.is("redo(1)", board.redo(1), Checks.IMPOSSIBLE));
        });
        checks.test("promise 10: redo of what another site has undone", due -> {
            Played board = new Played();
            Draw.dot(board, 0, 1, 1, 1, 1);
            board.undo(0);
            board.deliverAll();
            due.unchanged("redo", board, () -> due.is("redo(1)", board.redo(1), Checks.IMPOSSIBLE));
        });
    }

    private static void lift(Checks checks) {
        Edges.range(checks, "promise 11: lift, site from 0 to the last one", Draw::busy,
                (board, value) -> board.lift(value, 0, 0), 0, 9, 2, 3);
        Edges.range(checks, "promise 11: lift, layer from 0 to 3", Draw::busy,
                (board, value) -> board.lift(0, 0, value), 0, 9, 3, 9);
        Edges.range(checks, "promise 11: lift, place from 0 on", Draw::busy,
                (board, value) -> board.lift(0, value, 1), 0, 9, Integer.MAX_VALUE, Checks.IMPOSSIBLE);
        checks.test("promise 11: lift, the last place of the board", due -> {
            Played board = Draw.busy();
            due.is("lift(0, 2, 0)", board.lift(0, 2, 0), 9);
            due.is("its stroke", board.operation(0, 9, 3), 3);
        });
        Edges.refused(checks, "promise 11: lift, the place after the last one", Draw::busy,
                board -> board.lift(0, 3, 0), Checks.IMPOSSIBLE);
        Edges.refused(checks, "promise 11: lift, the greatest place", Draw::busy,
                board -> board.lift(0, Integer.MAX_VALUE, 0), Checks.IMPOSSIBLE);
        Edges.refused(checks, "promise 11: lift on an empty board", Played::new,
                board -> board.lift(0, 0, 0), Checks.IMPOSSIBLE);
        Edges.refused(checks, "promise 11: lift on a board whose strokes are undone",
                DrawingEdges::undone, board -> board.lift(1, 0, 0), Checks.IMPOSSIBLE);
    }

    private static void liftEnds(Checks checks) {
        checks.test("promise 11: lift to the layer that the stroke has makes an operation too", due -> {
            Played board = new Played();
            Draw.dot(board, 0, 1, 1, 1, 3);
            due.is("lift", board.lift(0, 0, 3), 2);
            due.is("layer", board.stroke(0, 0, 2), 3);
            due.is("waiting", board.waiting(0, 1), 2);
        });
        checks.test("promise 11: lift moves to the least and the greatest layer", due -> {
            Played board = new Played();
            Draw.dot(board, 0, 1, 1, 1, 1);
            board.lift(0, 0, 3);
            due.is("up", board.stroke(0, 0, 2), 3);
            board.lift(0, 0, 0);
            due.is("down", board.stroke(0, 0, 2), 0);
        });
        checks.test("promise 11: lift makes the twentieth operation, no more", due -> {
            Played board = new Played();
            Draw.dots(board, 0, 19);
            due.is("lift", board.lift(0, 18, 0), 20);
            due.is("the twentieth's kind", board.operation(0, 20, 0), StrokeBoard.LIFT);
            due.is("lift again", board.lift(0, 0, 0), Checks.LIMIT);
        });
        Edges.refused(checks, "promise 11: lift with 20 operations made", Draw::twenty,
                board -> board.lift(0, 0, 3), Checks.LIMIT);
        checks.test("promise 11: lift of another site's stroke with that site's 20 operations made", due -> {
            Played board = Draw.twenty();
            board.deliver(0, 1);
            due.is("lift", board.lift(1, 0, 3), 1);
            due.is("the stroke's author", board.operation(1, 1, 4), 0);
        });
    }
}
