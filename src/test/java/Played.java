import java.util.ArrayList;
import java.util.List;

/**
 * A StrokeBoard with the calls that were made on it. It makes no more than the 512 calls that the
 * document speaks of, and can play its calls again on a new object: what a test asks then does not
 * use up the calls of the object that is asked about, and may change that new object.
 */
final class Played {
    static final int MOST_CALLS = 512;

    private interface Call {
        int on(StrokeBoard board);
    }

    private final StrokeBoard board = new StrokeBoard();
    private final List<Call> calls = new ArrayList<>();
    private final List<Integer> answers = new ArrayList<>();

    private int play(Call call) {
        if (callsLeft() == 0) {
            throw new IllegalStateException("a test makes more than 512 calls on one object");
        }
        int answer = call.on(board);
        calls.add(call);
        answers.add(answer);
        return answer;
    }

    int callsLeft() {
        return MOST_CALLS - calls.size();
    }

    /** A new object in the same state; the same calls must have given the same answers. */
    Played again() {
        Played other = new Played();
        for (Call call : calls) {
            other.play(call);
        }
        if (!other.answers.equals(answers)) {
            throw new IllegalStateException("the same calls gave other answers");
        }
        return other;
    }

    int reset(int sites) {
        return play(on -> on.reset(sites));
    }

    int join() {
        return play(StrokeBoard::join);
    }

    int sites() {
        return play(StrokeBoard::sites);
    }

    int siteInfo(int site, int what) {
        return play(on -> on.siteInfo(site, what));
    }

    int penDown(int site, int x, int y, int color, int layer) {
        return play(on -> on.penDown(site, x, y, color, layer));
    }

    int penMove(int site, int dx, int dy) {
        return play(on -> on.penMove(site, dx, dy));
    }

    int penUp(int site) {
        return play(on -> on.penUp(site));
    }

    int undo(int site) {
        return play(on -> on.undo(site));
    }

    int redo(int site) {
        return play(on -> on.redo(site));
    }

    int lift(int site, int place, int layer) {
        return play(on -> on.lift(site, place, layer));
    }

    int deliver(int from, int to) {
        return play(on -> on.deliver(from, to));
    }

    int lose(int from, int to) {
        return play(on -> on.lose(from, to));
    }

    int deliverAll() {
        return play(StrokeBoard::deliverAll);
    }

    int waiting(int from, int to) {
        return play(on -> on.waiting(from, to));
    }

    int gap(int site, int author, int index) {
        return play(on -> on.gap(site, author, index));
    }

    int repair(int site, int helper) {
        return play(on -> on.repair(site, helper));
    }

    int transfer(int site, int helper) {
        return play(on -> on.transfer(site, helper));
    }

    int operation(int author, int number, int what) {
        return play(on -> on.operation(author, number, what));
    }

    int knows(int site, int author, int number) {
        return play(on -> on.knows(site, author, number));
    }

    int stroke(int site, int place, int what) {
        return play(on -> on.stroke(site, place, what));
    }

    int strokeAt(int site, int x, int y) {
        return play(on -> on.strokeAt(site, x, y));
    }

    int digest(int site) {
        return play(on -> on.digest(site));
    }

    int areSame(int a, int b) {
        return play(on -> on.areSame(a, b));
    }

    int differing() {
        return play(StrokeBoard::differing);
    }

    int bestHelper(int site) {
        return play(on -> on.bestHelper(site));
    }

    int endangered(int author) {
        return play(on -> on.endangered(author));
    }
}
