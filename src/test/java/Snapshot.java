import java.util.function.ToIntFunction;

/**
 * All that a caller can see of a board, as one text: what it answers, and what it would do next. The
 * calls are made on new objects in the same state, each with no more than its 512 calls.
 */
final class Snapshot {
    private final Played asked;
    private final StringBuilder text = new StringBuilder();
    private final int sites;
    private Played object;

    private Snapshot(Played asked) {
        this.asked = asked;
        this.object = asked.again();
        this.sites = object.sites();
    }

    static String of(Played board) {
        Snapshot snapshot = new Snapshot(board);
        snapshot.addAnswers();
        snapshot.addFutures();
        return snapshot.text.toString();
    }

    private int ask(ToIntFunction<Played> question) {
        if (object.callsLeft() == 0) {
            object = asked.again();
        }
        int answer = question.applyAsInt(object);
        text.append(answer).append(' ');
        return answer;
    }

    private void addAnswers() {
        ask(Played::sites);
        ask(Played::differing);
        for (int site = 0; site < sites; site++) {
            addSite(site);
            addPairs(site);
            addOperations(site);
            addStrokes(site);
            text.append('\n');
        }
    }

    private void addSite(int site) {
        for (int what = 0; what <= 4; what++) {
            int asks = what;
            ask(board -> board.siteInfo(site, asks));
        }
        ask(board -> board.digest(site));
        ask(board -> board.bestHelper(site));
        ask(board -> board.endangered(site));
    }

    private void addPairs(int site) {
        for (int other = 0; other < sites; other++) {
            int to = other;
            ask(board -> board.waiting(site, to));
            ask(board -> board.areSame(site, to));
            int answer = 0;
            for (int index = 0; index < 12 && answer >= 0; index++) {
                int asks = index;
                answer = ask(board -> board.gap(site, to, asks));
            }
        }
    }

    private void addOperations(int author) {
        int kind = 0;
        for (int k = 1; k <= 21 && kind >= 0; k++) {
            int number = k;
            kind = ask(board -> board.operation(author, number, 0));
            for (int what = 1; what <= 5 && kind >= 0; what++) {
                int asks = what;
                ask(board -> board.operation(author, number, asks));
            }
            for (int other = 0; other < sites && kind >= 0; other++) {
                int site = other;
                ask(board -> board.knows(site, author, number));
            }
        }
    }

    private void addStrokes(int site) {
        int author = 0;
        for (int k = 0; k <= 100 && author >= 0; k++) {
            int place = k;
            author = ask(board -> board.stroke(site, place, 0));
            int answer = 0;
            for (int what = 1; what <= 25 && author >= 0 && answer > -1000; what++) {
                int asks = what;
                // 5 to 9 are no values; the points end the row.
                answer = what >= 5 && what <= 9 ? 0 : ask(board -> board.stroke(site, place, asks));
            }
        }
    }

    /** What the pens hold, what the links hold, and what can be undone and redone. */
    private void addFutures() {
        object = asked.again();
        for (int k = 0; k < sites; k++) {
            int site = k;
            go(board -> board.penMove(site, 1, 0));
            go(board -> board.penUp(site));
            go(board -> board.digest(site));
        }
        text.append('\n');
        object = asked.again();
        for (int from = 0; from < sites; from++) {
            for (int to = 0; to < sites; to++) {
                goOn(from, to);
            }
        }
        text.append('\n');
        object = asked.again();
        for (int k = 0; k < sites; k++) {
            int site = k;
            for (int answer = 0; answer >= 0; ) {
                answer = go(board -> board.redo(site));
            }
            for (int answer = 0; answer >= 0; ) {
                answer = go(board -> board.undo(site));
            }
        }
    }

    private void goOn(int from, int to) {
        for (int answer = 0; answer >= 0; ) {
            answer = go(board -> board.deliver(from, to));
        }
    }

    /** A call that may change the object; none is made when its calls are used up. */
    private int go(ToIntFunction<Played> call) {
        return object.callsLeft() == 0 ? Checks.MISSING : ask(call);
    }
}
