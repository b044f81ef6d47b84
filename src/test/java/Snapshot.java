/** All that a caller can see of a board without changing it, as one text. */
final class Snapshot {
    private Snapshot() {
    }

    static String of(StrokeBoard board) {
        StringBuilder text = new StringBuilder();
        text.append(board.sites()).append(';').append(board.differing()).append('\n');
        for (int site = 0; site < board.sites(); site++) {
            addSite(text, board, site);
            addLinks(text, board, site);
            addOperations(text, board, site);
            addStrokes(text, board, site);
        }
        return text.toString();
    }

    private static void addSite(StringBuilder text, StrokeBoard board, int site) {
        for (int what = 0; what <= 4; what++) {
            text.append(board.siteInfo(site, what)).append(' ');
        }
        text.append(board.digest(site)).append(' ');
        text.append(board.bestHelper(site)).append(' ');
        text.append(board.endangered(site)).append('\n');
    }

    private static void addLinks(StringBuilder text, StrokeBoard board, int site) {
        for (int to = 0; to < board.sites(); to++) {
            text.append(board.waiting(site, to)).append(' ');
            text.append(board.areSame(site, to)).append(' ');
            for (int index = 0; index < 12; index++) {
                text.append(board.gap(site, to, index)).append(' ');
            }
        }
        text.append('\n');
    }

    private static void addOperations(StringBuilder text, StrokeBoard board, int author) {
        for (int number = 1; number <= 21; number++) {
            for (int what = 0; what <= 5; what++) {
                text.append(board.operation(author, number, what)).append(' ');
            }
            for (int site = 0; site < board.sites(); site++) {
                text.append(board.knows(site, author, number)).append(' ');
            }
        }
        text.append('\n');
    }

    private static void addStrokes(StringBuilder text, StrokeBoard board, int site) {
        int count = board.siteInfo(site, 3);
        for (int place = 0; place <= count; place++) {
            for (int what = 0; what <= 25; what++) {
                text.append(board.stroke(site, place, what)).append(' ');
            }
        }
        text.append('\n');
    }
}
