/** Short ways to bring a board into the state that a test wants. */
final class Draw {
    private Draw() {
    }

    /** A stroke of one point. */
    static int dot(Played board, int site, int x, int y, int color, int layer) {
        board.penDown(site, x, y, color, layer);
        return board.penUp(site);
    }

    static void dots(Played board, int site, int count) {
        for (int k = 0; k < count; k++) {
            dot(board, site, k, k, k % 8, k % 4);
        }
    }

    static Played withSites(int sites) {
        Played board = new Played();
        board.reset(sites);
        return board;
    }

    /** A stroke of several points, each step given as dx, dy. */
    static int line(Played board, int site, int... steps) {
        board.penDown(site, 20, 20, 0, 0);
        for (int k = 0; k + 1 < steps.length; k += 2) {
            board.penMove(site, steps[k], steps[k + 1]);
        }
        return board.penUp(site);
    }

    /**
     * Three sites with operations of each kind, messages in all links, a gap and pens down.
     *
     * <p>Site 0 has made STROKE 1 to 4 (layers 0 to 3), UNDO 5, REDO 6 and UNDO 7 of stroke 4, and
     * LIFT 8 of stroke 1 to layer 2: its board is 2, 1, 3. Site 1 has lost the message with 0's
     * stroke 1 and got the one with 2; it has made stroke 1: its board is its own stroke and 0's.
     * Site 2 has made stroke 1 and LIFT 2 of it to layer 3. Each pen has two points.
     */
    static Played busy() {
        Played board = new Played();
        makeBusy(board);
        return board;
    }

    static void makeBusy(Played board) {
        board.reset(3);
        dots(board, 0, 4);
        board.lose(0, 1);
        board.deliver(0, 1);
        line(board, 1, 1, 1);
        board.undo(0);
        board.redo(0);
        board.undo(0);
        board.lift(0, 0, 2);
        line(board, 2, 8, 8);
        board.lift(2, 0, 3);
        for (int site = 0; site < 3; site++) {
            board.penDown(site, 10 + site, 20, 1 + site, 1);
            board.penMove(site, 2, 3);
        }
    }

    /** Site 0 of two has made 20 operations: STROKE 1 to 19 and UNDO 20 of 19. Its pen is down. */
    static Played twenty() {
        Played board = new Played();
        dots(board, 0, 19);
        board.undo(0);
        board.penDown(0, 9, 9, 5, 2);
        board.penMove(0, 1, 1);
        return board;
    }

    /** Site 0 of two has made 20 operations on one stroke, the last one an UNDO: its board is empty. */
    static Played twentyUndone() {
        Played board = new Played();
        dot(board, 0, 5, 5, 5, 1);
        for (int k = 0; k < 9; k++) {
            board.undo(0);
            board.redo(0);
        }
        board.undo(0);
        return board;
    }

    /** Five sites that made 20 strokes each; each one first got all of the one before it. */
    static Played full() {
        Played board = withSites(5);
        for (int site = 0; site < 5; site++) {
            if (site > 0) {
                board.transfer(site, site - 1);
            }
            dots(board, site, 20);
        }
        return board;
    }

    /** Site {@code to} gets the messages of these places of the link, the others are lost. */
    static void deliverOnly(Played board, int from, int to, int... places) {
        int next = 0;
        int count = board.waiting(from, to);
        for (int place = 1; place <= count; place++) {
            if (next < places.length && places[next] == place) {
                board.deliver(from, to);
                next++;
            } else {
                board.lose(from, to);
            }
        }
    }
}
