/** Short ways to bring a board into the state that a test wants. */
final class Draw {
    private Draw() {
    }

    /** A stroke of one point. */
    static int dot(StrokeBoard board, int site, int x, int y, int color, int layer) {
        board.penDown(site, x, y, color, layer);
        return board.penUp(site);
    }

    static void dots(StrokeBoard board, int site, int count) {
        for (int k = 0; k < count; k++) {
            dot(board, site, k, k, k % 8, k % 4);
        }
    }

    static StrokeBoard withSites(int sites) {
        StrokeBoard board = new StrokeBoard();
        board.reset(sites);
        return board;
    }

    /** A stroke of several points, each step given as dx, dy. */
    static int line(StrokeBoard board, int site, int... steps) {
        board.penDown(site, 20, 20, 0, 0);
        for (int k = 0; k + 1 < steps.length; k += 2) {
            board.penMove(site, steps[k], steps[k + 1]);
        }
        return board.penUp(site);
    }
}
