/** The section "Errors": which error comes first, and that none of them changes anything. */
final class ErrorEdges {
    private static final String ERRORS = "section 'Errors': ";
    private static final String POSSIBLE = ERRORS + "INVALID_ARGUMENT rather than NOT_POSSIBLE, ";
    private static final String LIMIT = ERRORS + "INVALID_ARGUMENT rather than LIMIT_REACHED, ";
    private static final String FOUND = ERRORS + "INVALID_ARGUMENT rather than NOT_FOUND, ";
    private static final String STATE = ERRORS + "NOT_POSSIBLE rather than LIMIT_REACHED, ";
    private static final String KEEPS = ERRORS + "nothing is changed by a refused ";
    private static final String ASKS = ERRORS + "nothing is changed by ";

    private ErrorEdges() {
    }

    static void all(Checks checks) {
        constants(checks);
        invalidOrNotPossible(checks);
        invalidOrLimit(checks);
        invalidOrNotFound(checks);
        notPossibleOrLimit(checks);
        limitOrNotFound(checks);
        refusedChanges(checks);
        invalidChanges(checks);
        whatWouldCome(checks);
        questions(checks);
    }

    private static void constants(Checks checks) {
        checks.test(ERRORS + "the four errors are four numbers, and the kinds are 0 to 3", due -> {
            due.is("INVALID_ARGUMENT", StrokeBoard.INVALID_ARGUMENT, -1000000001);
            due.is("NOT_POSSIBLE", StrokeBoard.NOT_POSSIBLE, -1000000002);
            due.is("LIMIT_REACHED", StrokeBoard.LIMIT_REACHED, -1000000003);
            due.is("NOT_FOUND", StrokeBoard.NOT_FOUND, -1000000004);
            due.is("STROKE", StrokeBoard.STROKE, 0);
            due.is("UNDO", StrokeBoard.UNDO, 1);
            due.is("REDO", StrokeBoard.REDO, 2);
            due.is("LIFT", StrokeBoard.LIFT, 3);
        });
    }

    private static void invalidOrNotPossible(Checks checks) {
        Edges.refused(checks, POSSIBLE + "penMove: dx 9, no pen down", Played::new,
                board -> board.penMove(0, 9, 0), Checks.INVALID);
        Edges.refused(checks, POSSIBLE + "penMove: dy -9, no pen down", Played::new,
                board -> board.penMove(0, 0, -9), Checks.INVALID);
        Edges.refused(checks, POSSIBLE + "penMove: no such site, no pen down", Played::new,
                board -> board.penMove(2, 0, 0), Checks.INVALID);
        Edges.refused(checks, POSSIBLE + "penUp: no such site, no pen down", Played::new,
                board -> board.penUp(2), Checks.INVALID);
        Edges.refused(checks, POSSIBLE + "undo: no such site, no stroke", Played::new,
                board -> board.undo(2), Checks.INVALID);
        Edges.refused(checks, POSSIBLE + "redo: no such site, no stroke", Played::new,
                board -> board.redo(2), Checks.INVALID);
        Edges.refused(checks, POSSIBLE + "lift: layer 4, no stroke", Played::new,
                board -> board.lift(0, 0, 4), Checks.INVALID);
        Edges.refused(checks, POSSIBLE + "lift: layer -1, no stroke", Played::new,
                board -> board.lift(0, 0, -1), Checks.INVALID);
        Edges.refused(checks, POSSIBLE + "lift: place -1, no stroke", Played::new,
                board -> board.lift(0, -1, 0), Checks.INVALID);
        Edges.refused(checks, POSSIBLE + "lift: no such site, no stroke", Played::new,
                board -> board.lift(2, 0, 0), Checks.INVALID);
    }

    private static Played eightPoints() {
        Played board = new Played();
        board.penDown(0, 3, 4, 5, 1);
        for (int k = 0; k < 7; k++) {
            board.penMove(0, 1, -1);
        }
        return board;
    }

    private static void invalidOrLimit(Checks checks) {
        Edges.refused(checks, LIMIT + "penMove: dx -9 with 8 points", ErrorEdges::eightPoints,
                board -> board.penMove(0, -9, 0), Checks.INVALID);
        Edges.refused(checks, LIMIT + "penMove: dy 9 with 8 points", ErrorEdges::eightPoints,
                board -> board.penMove(0, 0, 9), Checks.INVALID);
        Edges.refused(checks, LIMIT + "penUp: no such site where all have made 20", Draw::full,
                board -> board.penUp(5), Checks.INVALID);
        Edges.refused(checks, LIMIT + "undo: no such site where all have made 20", Draw::full,
                board -> board.undo(5), Checks.INVALID);
        Edges.refused(checks, LIMIT + "redo: no such site where all have made 20", Draw::full,
                board -> board.redo(5), Checks.INVALID);
        Edges.refused(checks, LIMIT + "lift: layer 4 with 20 operations made", Draw::twenty,
                board -> board.lift(0, 0, 4), Checks.INVALID);
        Edges.refused(checks, LIMIT + "lift: place -1 with 20 operations made", Draw::twenty,
                board -> board.lift(0, -1, 0), Checks.INVALID);
        Edges.refused(checks, LIMIT + "reset: 6 sites where there are 5", Draw::full,
                board -> board.reset(6), Checks.INVALID);
    }

    private static void invalidOrNotFound(Checks checks) {
        Edges.refused(checks, FOUND + "deliver: the same site, no messages", Played::new,
                board -> board.deliver(1, 1), Checks.INVALID);
        Edges.refused(checks, FOUND + "deliver: no such site, no messages", Played::new,
                board -> board.deliver(0, 2), Checks.INVALID);
        Edges.refused(checks, FOUND + "lose: the same site, no messages", Played::new,
                board -> board.lose(0, 0), Checks.INVALID);
        Edges.refused(checks, FOUND + "lose: no such site, no messages", Played::new,
                board -> board.lose(-1, 0), Checks.INVALID);
        Edges.refused(checks, FOUND + "gap: index -1, no gaps", Played::new,
                board -> board.gap(0, 1, -1), Checks.INVALID);
        Edges.refused(checks, FOUND + "gap: no such author, no gaps", Played::new,
                board -> board.gap(0, 2, 0), Checks.INVALID);
        Edges.refused(checks, FOUND + "operation: what 6, no operation", Played::new,
                board -> board.operation(0, 1, 6), Checks.INVALID);
        Edges.refused(checks, FOUND + "operation: number 0, no operation", Played::new,
                board -> board.operation(0, 0, 0), Checks.INVALID);
        Edges.refused(checks, FOUND + "knows: number 0, no operation", Played::new,
                board -> board.knows(0, 0, 0), Checks.INVALID);
        Edges.refused(checks, FOUND + "knows: no such site, no operation", Played::new,
                board -> board.knows(2, 0, 1), Checks.INVALID);
        Edges.refused(checks, FOUND + "stroke: what 5, no stroke", Played::new,
                board -> board.stroke(0, 0, 5), Checks.INVALID);
        Edges.refused(checks, FOUND + "stroke: what 26, no stroke", Played::new,
                board -> board.stroke(0, 0, 26), Checks.INVALID);
        Edges.refused(checks, FOUND + "stroke: place -1, no stroke", Played::new,
                board -> board.stroke(0, -1, 0), Checks.INVALID);
        Edges.refused(checks, FOUND + "strokeAt: x 201, no stroke", Played::new,
                board -> board.strokeAt(0, 201, 0), Checks.INVALID);
        Edges.refused(checks, FOUND + "strokeAt: y -101, no stroke", Played::new,
                board -> board.strokeAt(0, 0, -101), Checks.INVALID);
        Edges.refused(checks, FOUND + "bestHelper: no such site, no gaps", Played::new,
                board -> board.bestHelper(2), Checks.INVALID);
    }

    private static Played twentyStrokes() {
        Played board = new Played();
        Draw.dots(board, 0, 20);
        return board;
    }

    private static void notPossibleOrLimit(Checks checks) {
        Edges.refused(checks, STATE + "penUp: no pen down, 20 operations made", ErrorEdges::twentyStrokes,
                board -> board.penUp(0), Checks.IMPOSSIBLE);
        Edges.refused(checks, STATE + "undo: no visible stroke, 20 operations made", Draw::twentyUndone,
                board -> board.undo(0), Checks.IMPOSSIBLE);
        Edges.refused(checks, STATE + "redo: no undone stroke, 20 operations made",
                ErrorEdges::twentyStrokes, board -> board.redo(0), Checks.IMPOSSIBLE);
        Edges.refused(checks, STATE + "lift: place 20 of 20 strokes, 20 operations made",
                ErrorEdges::twentyStrokes, board -> board.lift(0, 20, 0), Checks.IMPOSSIBLE);
        Edges.refused(checks, STATE + "lift: no visible stroke, 20 operations made", Draw::twentyUndone,
                board -> board.lift(0, 0, 0), Checks.IMPOSSIBLE);
        checks.test(STATE + "penMove: no pen down after a stroke of 8 points", due -> {
            Played board = eightPoints();
            board.penUp(0);
            due.is("penMove", board.penMove(0, 1, 1), Checks.IMPOSSIBLE);
        });
    }

    /** No call of the document can have both errors: each one's own error is due at every limit. */
    private static void limitOrNotFound(Checks checks) {
        checks.test(ERRORS + "LIMIT_REACHED, not NOT_FOUND, where a limit is reached", due -> {
            Played board = Draw.full();
            board.penDown(4, 1, 1, 1, 1);
            due.is("join", board.join(), Checks.LIMIT);
            due.is("penUp", board.penUp(4), Checks.LIMIT);
            due.is("undo", board.undo(4), Checks.LIMIT);
            due.is("lift", board.lift(4, 99, 0), Checks.LIMIT);
            due.is("redo", Draw.twentyUndone().redo(0), Checks.LIMIT);
            due.is("penMove", eightPoints().penMove(0, 1, 1), Checks.LIMIT);
        });
        checks.test(ERRORS + "NOT_FOUND where nothing is found, with all limits reached", due -> {
            Played board = Draw.full();
            board.deliverAll();
            due.is("deliver", board.deliver(4, 0), Checks.MISSING);
            due.is("lose", board.lose(4, 0), Checks.MISSING);
            due.is("gap", board.gap(4, 0, 0), Checks.MISSING);
            due.is("operation", board.operation(4, 21, 0), Checks.MISSING);
            due.is("knows", board.knows(4, 0, 21), Checks.MISSING);
            due.is("stroke", board.stroke(4, 100, 0), Checks.MISSING);
            due.is("strokeAt", board.strokeAt(4, 63, 63), Checks.MISSING);
            due.is("bestHelper", board.bestHelper(4), Checks.MISSING);
        });
    }

    private static void refusedChanges(Checks checks) {
        Edges.refused(checks, KEEPS + "join", Draw::full, Played::join, Checks.LIMIT);
        Edges.refused(checks, KEEPS + "penMove, no pen down", Draw::twentyUndone,
                board -> board.penMove(0, 1, 1), Checks.IMPOSSIBLE);
        Edges.refused(checks, KEEPS + "penMove, 8 points", ErrorEdges::eightPoints,
                board -> board.penMove(0, 1, 1), Checks.LIMIT);
        Edges.refused(checks, KEEPS + "penUp, no pen down", Draw::twentyUndone,
                board -> board.penUp(0), Checks.IMPOSSIBLE);
        Edges.refused(checks, KEEPS + "penUp, 20 operations", Draw::twenty,
                board -> board.penUp(0), Checks.LIMIT);
        Edges.refused(checks, KEEPS + "undo, no stroke", Draw::twenty,
                board -> board.undo(1), Checks.IMPOSSIBLE);
        Edges.refused(checks, KEEPS + "undo, 20 operations", Draw::twenty,
                board -> board.undo(0), Checks.LIMIT);
        Edges.refused(checks, KEEPS + "redo, no stroke", Draw::busy,
                board -> board.redo(1), Checks.IMPOSSIBLE);
        Edges.refused(checks, KEEPS + "redo, 20 operations", Draw::twenty,
                board -> board.redo(0), Checks.LIMIT);
        Edges.refused(checks, KEEPS + "lift, too great a place", Draw::busy,
                board -> board.lift(1, 2, 3), Checks.IMPOSSIBLE);
        Edges.refused(checks, KEEPS + "lift, 20 operations", Draw::twenty,
                board -> board.lift(0, 17, 3), Checks.LIMIT);
        Edges.refused(checks, KEEPS + "deliver, an empty link", Draw::twenty,
                board -> board.deliver(1, 0), Checks.MISSING);
        Edges.refused(checks, KEEPS + "lose, an empty link", Draw::twenty,
                board -> board.lose(1, 0), Checks.MISSING);
    }

    private static void invalidChanges(Checks checks) {
        checks.test(KEEPS + "call with any argument that is out of its range", due -> {
            Played board = Draw.busy();
            due.unchanged("all refused calls", board, () -> {
                int[] wrong = {-1, 3, Integer.MIN_VALUE, Integer.MAX_VALUE};
                for (int site : wrong) {
                    due.is("penDown", board.penDown(site, 1, 1, 1, 1), Checks.INVALID);
                    due.is("penMove", board.penMove(site, 1, 1), Checks.INVALID);
                    due.is("penUp", board.penUp(site), Checks.INVALID);
                    due.is("undo", board.undo(site), Checks.INVALID);
                    due.is("redo", board.redo(site), Checks.INVALID);
                    due.is("lift", board.lift(site, 0, 3), Checks.INVALID);
                    due.is("deliver from", board.deliver(site, 1), Checks.INVALID);
                    due.is("deliver to", board.deliver(1, site), Checks.INVALID);
                    due.is("lose from", board.lose(site, 1), Checks.INVALID);
                    due.is("lose to", board.lose(1, site), Checks.INVALID);
                    due.is("repair", board.repair(site, 0), Checks.INVALID);
                    due.is("repair by", board.repair(1, site), Checks.INVALID);
                    due.is("transfer", board.transfer(site, 0), Checks.INVALID);
                    due.is("transfer from", board.transfer(1, site), Checks.INVALID);
                    due.is("reset", board.reset(site == 3 ? 6 : site), Checks.INVALID);
                }
            });
        });
    }

    private static void whatWouldCome(Checks checks) {
        checks.test(ASKS + "differing, with messages in all links", due -> {
            Played board = Draw.busy();
            due.unchanged("differing", board, () -> {
                int answer = board.differing();
                due.is("differing() again", board.differing(), answer);
            });
        });
        checks.test(ASKS + "differing, before another question", due -> {
            Played board = Draw.busy();
            int strokes = board.siteInfo(1, 3);
            int digest = board.digest(2);
            board.differing();
            due.is("strokes", board.siteInfo(1, 3), strokes);
            due.is("digest", board.digest(2), digest);
            due.is("known", board.siteInfo(1, 1), 2);
            due.is("clock", board.siteInfo(1, 0), 3);
            due.is("waiting", board.waiting(0, 1), 6);
        });
        checks.test(ASKS + "bestHelper, with a gap to fill", due -> {
            Played board = Draw.busy();
            due.unchanged("bestHelper", board, () -> {
                due.is("bestHelper(1)", board.bestHelper(1), 0);
                due.is("bestHelper(1) again", board.bestHelper(1), 0);
                due.is("bestHelper(0)", board.bestHelper(0), Checks.MISSING);
            });
            due.is("repair still receives it", board.repair(1, 0), 1);
        });
        checks.test(ASKS + "endangered, with operations in links", due -> {
            Played board = Draw.twenty();
            due.unchanged("endangered", board, () -> {
                due.is("endangered(0)", board.endangered(0), 10);
                due.is("endangered(0) again", board.endangered(0), 10);
                due.is("endangered(1)", board.endangered(1), 0);
            });
        });
    }

    private static void questions(Checks checks) {
        checks.test(ASKS + "a question: sites, siteInfo, waiting, gap, operation, knows", due -> {
            Played board = Draw.busy();
            due.unchanged("the questions", board, () -> {
                due.is("sites()", board.sites(), 3);
                due.is("siteInfo(0, 3)", board.siteInfo(0, 3), 3);
                due.is("waiting(0, 2)", board.waiting(0, 2), 8);
                due.is("gap(1, 0, 0)", board.gap(1, 0, 0), 101);
                due.is("operation(0, 7, 3)", board.operation(0, 7, 3), 4);
                due.is("knows(1, 0, 1)", board.knows(1, 0, 1), 0);
            });
        });
        checks.test(ASKS + "a question: stroke, strokeAt, digest, areSame", due -> {
            Played board = Draw.busy();
            due.unchanged("the questions", board, () -> {
                due.is("stroke(0, 1, 2)", board.stroke(0, 1, 2), 2);
                due.is("strokeAt(0, 2, 2)", board.strokeAt(0, 2, 2), 2);
                due.is("digest(2)", board.digest(2), board.digest(2));
                due.is("areSame(0, 1)", board.areSame(0, 1), 0);
            });
        });
    }
}
