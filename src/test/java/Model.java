import java.util.ArrayDeque;
import java.util.ArrayList;
import java.util.Comparator;
import java.util.Deque;
import java.util.LinkedHashSet;
import java.util.List;
import java.util.Set;

/**
 * The document once more, written straight from its definitions with the Java library: sets of
 * operations, and boards that are found anew by looking for the last operation of each stroke.
 */
final class Model {
    static final class Op {
        int author;
        int number;
        int time;
        int kind;
        int color;
        int layer = -1;
        Op target;
        List<int[]> points = new ArrayList<>();

        int size() {
            if (kind == 1 || kind == 2) {
                return 3;
            }
            int size = 4;
            for (int k = 1; k < points.size(); k++) {
                int dx = points.get(k)[0] - points.get(k - 1)[0];
                int dy = points.get(k)[1] - points.get(k - 1)[1];
                size += dx >= -4 && dx <= 3 && dy >= -4 && dy <= 3 ? 1 : 2;
            }
            return size;
        }
    }

    static final class Site {
        int clock;
        Set<Op> known = new LinkedHashSet<>();
        List<Op> made = new ArrayList<>();
        Op pen;
        List<Deque<Op>> out = new ArrayList<>();
    }

    private static final Comparator<Op> TOTAL =
            Comparator.<Op>comparingInt(op -> op.time).thenComparingInt(op -> op.author);

    private List<Site> all = new ArrayList<>();

    Model() {
        reset(2);
    }

    private boolean no(int site) {
        return site < 0 || site >= all.size();
    }

    private boolean noPair(int a, int b) {
        return no(a) || no(b) || a == b;
    }

    private static boolean off(int value, int least, int most) {
        return value < least || value > most;
    }

    int reset(int sites) {
        if (off(sites, 1, 5)) {
            return Checks.INVALID;
        }
        int previous = all.size();
        all = new ArrayList<>();
        for (int k = 0; k < sites; k++) {
            join();
        }
        return previous;
    }

    int join() {
        if (all.size() == 5) {
            return Checks.LIMIT;
        }
        Site site = new Site();
        for (int k = 0; k < 5; k++) {
            site.out.add(new ArrayDeque<>());
        }
        all.add(site);
        return all.size() - 1;
    }

    int sites() {
        return all.size();
    }

    int siteInfo(int site, int what) {
        if (no(site) || off(what, 0, 4)) {
            return Checks.INVALID;
        }
        Site s = all.get(site);
        int points = s.pen == null ? 0 : s.pen.points.size();
        int[] values = {s.clock, s.known.size(), s.made.size(), board(s.known).size(), points};
        return values[what];
    }

    int penDown(int site, int x, int y, int color, int layer) {
        if (no(site) || off(x, 0, 63) || off(y, 0, 63) || off(color, 0, 7) || off(layer, 0, 3)) {
            return Checks.INVALID;
        }
        Op pen = new Op();
        pen.color = color;
        pen.layer = layer;
        pen.points.add(new int[] {x, y});
        all.get(site).pen = pen;
        return 1;
    }

    int penMove(int site, int dx, int dy) {
        if (no(site) || off(dx, -8, 8) || off(dy, -8, 8)) {
            return Checks.INVALID;
        }
        Op pen = all.get(site).pen;
        if (pen == null) {
            return Checks.IMPOSSIBLE;
        }
        if (pen.points.size() == 8) {
            return Checks.LIMIT;
        }
        int[] last = pen.points.get(pen.points.size() - 1);
        pen.points.add(new int[] {last[0] + dx, last[1] + dy});
        return pen.points.size();
    }

    int penUp(int site) {
        if (no(site)) {
            return Checks.INVALID;
        }
        Site s = all.get(site);
        if (s.pen == null) {
            return Checks.IMPOSSIBLE;
        }
        if (s.made.size() == 20) {
            return Checks.LIMIT;
        }
        Op op = s.pen;
        s.pen = null;
        return make(site, 0, op);
    }

    private int make(int site, int kind, Op op) {
        Site s = all.get(site);
        op.author = site;
        op.number = s.made.size() + 1;
        op.kind = kind;
        op.time = ++s.clock;
        s.made.add(op);
        s.known.add(op);
        for (int to = 0; to < all.size(); to++) {
            if (to != site && s.out.get(to).size() < 10) {
                s.out.get(to).addLast(op);
            }
        }
        return op.number;
    }

    private int change(int site, int kind, Op target) {
        if (target == null) {
            return Checks.IMPOSSIBLE;
        }
        if (all.get(site).made.size() == 20) {
            return Checks.LIMIT;
        }
        Op op = new Op();
        op.target = target;
        make(site, kind, op);
        return target.number;
    }

    int undo(int site) {
        if (no(site)) {
            return Checks.INVALID;
        }
        Op best = null;
        for (Op op : board(all.get(site).known)) {
            if (op.author == site && (best == null || op.number > best.number)) {
                best = op;
            }
        }
        return change(site, 1, best);
    }

    int redo(int site) {
        if (no(site)) {
            return Checks.INVALID;
        }
        List<Op> shown = board(all.get(site).known);
        Op best = null;
        for (Op op : all.get(site).made) {
            if (op.kind == 1 && !shown.contains(op.target)) {
                best = op;
            }
        }
        return change(site, 2, best == null ? null : best.target);
    }

    int lift(int site, int place, int layer) {
        if (no(site) || place < 0 || off(layer, 0, 3)) {
            return Checks.INVALID;
        }
        List<Op> shown = board(all.get(site).known);
        if (place >= shown.size()) {
            return Checks.IMPOSSIBLE;
        }
        if (all.get(site).made.size() == 20) {
            return Checks.LIMIT;
        }
        Op op = new Op();
        op.target = shown.get(place);
        op.layer = layer;
        return make(site, 3, op);
    }

    private void receive(Site site, Op op) {
        site.known.add(op);
        site.clock = Math.max(site.clock, op.time);
    }

    int deliver(int from, int to) {
        if (noPair(from, to)) {
            return Checks.INVALID;
        }
        Op op = all.get(from).out.get(to).pollFirst();
        if (op == null) {
            return Checks.MISSING;
        }
        receive(all.get(to), op);
        return 100 * op.author + op.number;
    }

    int lose(int from, int to) {
        if (noPair(from, to)) {
            return Checks.INVALID;
        }
        return all.get(from).out.get(to).pollFirst() == null ? Checks.MISSING : waiting(from, to);
    }

    int deliverAll() {
        int count = 0;
        for (int from = 0; from < all.size(); from++) {
            for (int to = 0; to < all.size(); to++) {
                while (deliver(from, to) >= 0) {
                    count++;
                }
            }
        }
        return count;
    }

    int waiting(int from, int to) {
        return noPair(from, to) ? Checks.INVALID : all.get(from).out.get(to).size();
    }

    /** Pairs of the first and the last number of each gap. */
    private List<int[]> gaps(int site, int author) {
        int greatest = 0;
        boolean[] known = new boolean[22];
        for (Op op : all.get(site).known) {
            if (op.author == author) {
                known[op.number] = true;
                greatest = Math.max(greatest, op.number);
            }
        }
        List<int[]> gaps = new ArrayList<>();
        for (int number = 1; number <= greatest; number++) {
            if (!known[number] && (number == 1 || known[number - 1])) {
                int end = number;
                while (!known[end + 1]) {
                    end++;
                }
                gaps.add(new int[] {number, end});
            }
        }
        return gaps;
    }

    int gap(int site, int author, int index) {
        if (no(site) || no(author) || index < 0) {
            return Checks.INVALID;
        }
        List<int[]> gaps = gaps(site, author);
        return index >= gaps.size() ? Checks.MISSING : 100 * gaps.get(index)[0] + gaps.get(index)[1];
    }

    private List<Op> inGaps(int site, int helper) {
        List<Op> found = new ArrayList<>();
        for (Op op : all.get(helper).known) {
            for (int[] gap : gaps(site, op.author)) {
                if (op.number >= gap[0] && op.number <= gap[1]) {
                    found.add(op);
                }
            }
        }
        return found;
    }

    int repair(int site, int helper) {
        if (noPair(site, helper)) {
            return Checks.INVALID;
        }
        List<Op> found = inGaps(site, helper);
        for (Op op : found) {
            receive(all.get(site), op);
        }
        return found.size();
    }

    int transfer(int site, int helper) {
        if (noPair(site, helper)) {
            return Checks.INVALID;
        }
        int size = 0;
        for (Op op : all.get(helper).known) {
            if (!all.get(site).known.contains(op)) {
                size += op.size();
                receive(all.get(site), op);
            }
        }
        all.get(site).clock = Math.max(all.get(site).clock, all.get(helper).clock);
        return size;
    }

    int operation(int author, int number, int what) {
        if (no(author) || number < 1 || off(what, 0, 5)) {
            return Checks.INVALID;
        }
        if (number > all.get(author).made.size()) {
            return Checks.MISSING;
        }
        Op op = all.get(author).made.get(number - 1);
        int third = op.target == null ? op.points.size() : op.target.number;
        int fourth = op.kind == 3 ? op.target.author : author;
        int[] values = {op.kind, op.time, op.size(), third, fourth, op.layer};
        return values[what];
    }

    int knows(int site, int author, int number) {
        if (no(site) || no(author) || number < 1) {
            return Checks.INVALID;
        }
        if (number > all.get(author).made.size()) {
            return Checks.MISSING;
        }
        return all.get(site).known.contains(all.get(author).made.get(number - 1)) ? 1 : 0;
    }

    private static Op lastFor(Set<Op> known, Op stroke, boolean lifts) {
        Op last = null;
        for (Op op : known) {
            if (op.target == stroke && (op.kind == 3) == lifts
                    && (last == null || TOTAL.compare(op, last) > 0)) {
                last = op;
            }
        }
        return last;
    }

    private static int layer(Set<Op> known, Op stroke) {
        Op last = lastFor(known, stroke, true);
        return last == null ? stroke.layer : last.layer;
    }

    private static List<Op> board(Set<Op> known) {
        List<Op> shown = new ArrayList<>();
        for (Op op : known) {
            Op last = lastFor(known, op, false);
            if (op.kind == 0 && (last == null || last.kind == 2)) {
                shown.add(op);
            }
        }
        shown.sort(Comparator.<Op>comparingInt(op -> layer(known, op)).thenComparing(TOTAL));
        return shown;
    }

    int stroke(int site, int place, int what) {
        if (no(site) || place < 0 || off(what, 0, 25) || !off(what, 5, 9)) {
            return Checks.INVALID;
        }
        Set<Op> known = all.get(site).known;
        List<Op> shown = board(known);
        if (place >= shown.size()) {
            return Checks.MISSING;
        }
        Op op = shown.get(place);
        if (what < 10) {
            int[] values = {op.author, op.number, layer(known, op), op.color, op.points.size()};
            return values[what];
        }
        int point = (what - 10) / 2;
        return point >= op.points.size() ? Checks.MISSING : op.points.get(point)[what % 2];
    }

    int strokeAt(int site, int x, int y) {
        if (no(site) || off(x, -100, 200) || off(y, -100, 200)) {
            return Checks.INVALID;
        }
        int found = Checks.MISSING;
        List<Op> shown = board(all.get(site).known);
        for (int place = 0; place < shown.size(); place++) {
            for (int[] point : shown.get(place).points) {
                if (point[0] == x && point[1] == y) {
                    found = place;
                }
            }
        }
        return found;
    }

    /** What digest hashes, as a list: author, number, layer, color, points. */
    private static List<Integer> values(Set<Op> known) {
        List<Integer> values = new ArrayList<>();
        for (Op op : board(known)) {
            values.add(op.author);
            values.add(op.number);
            values.add(layer(known, op));
            values.add(op.color);
            for (int[] point : op.points) {
                values.add(point[0]);
                values.add(point[1]);
            }
        }
        return values;
    }

    int digest(int site) {
        if (no(site)) {
            return 0;
        }
        int h = 17;
        for (int value : values(all.get(site).known)) {
            h = 31 * h + value;
        }
        return h;
    }

    int areSame(int a, int b) {
        if (no(a) || no(b)) {
            return Checks.INVALID;
        }
        return values(all.get(a).known).equals(values(all.get(b).known)) ? 1 : 0;
    }

    int differing() {
        List<List<Integer>> boards = new ArrayList<>();
        for (int to = 0; to < all.size(); to++) {
            Set<Op> known = new LinkedHashSet<>(all.get(to).known);
            for (Site from : all) {
                known.addAll(from.out.get(to));
            }
            boards.add(values(known));
        }
        int pairs = 0;
        for (int a = 0; a < boards.size(); a++) {
            for (int b = 0; b < a; b++) {
                pairs += boards.get(a).equals(boards.get(b)) ? 0 : 1;
            }
        }
        return pairs;
    }

    int bestHelper(int site) {
        if (no(site)) {
            return Checks.INVALID;
        }
        int best = Checks.MISSING;
        int most = 0;
        for (int helper = 0; helper < all.size(); helper++) {
            if (helper != site && inGaps(site, helper).size() > most) {
                most = inGaps(site, helper).size();
                best = helper;
            }
        }
        return best;
    }

    int endangered(int author) {
        if (no(author)) {
            return Checks.INVALID;
        }
        Set<Op> lonely = new LinkedHashSet<>(all.get(author).made);
        for (int site = 0; site < all.size(); site++) {
            if (site != author) {
                lonely.removeAll(all.get(site).known);
            }
            for (Deque<Op> link : all.get(site).out) {
                lonely.removeAll(link);
            }
        }
        return lonely.size();
    }
}
