/**
 * A shared whiteboard of up to five sites whose operations travel over links that can lose them.
 *
 * <p>Every row of numbers is made in a constructor and used again by each call, so that no call
 * makes an object: all calls of one run live in one room.
 */
public final class StrokeBoard {
    public static final int INVALID_ARGUMENT = -1000000001;
    public static final int NOT_POSSIBLE = -1000000002;
    public static final int LIMIT_REACHED = -1000000003;
    public static final int NOT_FOUND = -1000000004;
    public static final int STROKE = 0, UNDO = 1, REDO = 2, LIFT = 3;

    private static final int MAX_SITES = 5;
    private static final int FIRST_SITES = 2;
    private static final int MAX_NUMBER = 20;
    private static final int MAX_IDS = MAX_SITES * MAX_NUMBER;
    private static final int MAX_POINTS = 8;
    private static final int MAX_MESSAGES = 10;
    private static final int LINKS = MAX_SITES * MAX_SITES;
    private static final int MAX_PLACE = 63;
    private static final int MAX_STEP = 8;
    private static final int MAX_COLOR = 7;
    private static final int MAX_LAYER = 3;
    private static final int NO_LAYER = -1;
    private static final int NONE = -1;

    private final Log log = new Log();
    private final Ink pens = new Ink(MAX_SITES);
    private final Knowledge knowledge = new Knowledge();
    private final Knowledge future = new Knowledge();
    private final Links links = new Links();
    private final Board board = new Board();
    private final Board secondBoard = new Board();
    private final Row clocks = new Row(MAX_SITES);
    private int siteCount;

    public StrokeBoard() {
        siteCount = FIRST_SITES;
    }

    public int reset(int sites) {
        if (!isWithin(sites, 1, MAX_SITES)) {
            return INVALID_ARGUMENT;
        }
        int previous = siteCount;
        log.clear();
        pens.clear();
        knowledge.clear();
        links.clear();
        clocks.fill(0);
        siteCount = sites;
        return previous;
    }

    public int join() {
        if (siteCount >= MAX_SITES) {
            return LIMIT_REACHED;
        }
        siteCount++;
        return siteCount - 1;
    }

    public int sites() {
        return siteCount;
    }

    public int siteInfo(int site, int what) {
        if (!isSite(site)) {
            return INVALID_ARGUMENT;
        }
        switch (what) {
            case 0:
                return clocks.get(site);
            case 1:
                return knowledge.countOf(site);
            case 2:
                return log.madeBy(site);
            case 3:
                board.show(log, knowledge, site);
                return board.strokeCount();
            case 4:
                return pens.pointCount(site);
            default:
                return INVALID_ARGUMENT;
        }
    }

    public int penDown(int site, int x, int y, int color, int layer) {
        if (!isSite(site) || !isWithin(x, 0, MAX_PLACE) || !isWithin(y, 0, MAX_PLACE)
                || !isWithin(color, 0, MAX_COLOR) || !isWithin(layer, 0, MAX_LAYER)) {
            return INVALID_ARGUMENT;
        }
        pens.start(site, color, layer);
        pens.addPoint(site, x, y);
        return pens.pointCount(site);
    }

    public int penMove(int site, int dx, int dy) {
        if (!isSite(site) || !isWithin(dx, -MAX_STEP, MAX_STEP)
                || !isWithin(dy, -MAX_STEP, MAX_STEP)) {
            return INVALID_ARGUMENT;
        }
        int count = pens.pointCount(site);
        if (count == 0) {
            return NOT_POSSIBLE;
        }
        if (count >= MAX_POINTS) {
            return LIMIT_REACHED;
        }
        pens.addPoint(site, pens.xOf(site, count - 1) + dx, pens.yOf(site, count - 1) + dy);
        return pens.pointCount(site);
    }

    public int penUp(int site) {
        if (!isSite(site)) {
            return INVALID_ARGUMENT;
        }
        if (pens.pointCount(site) == 0) {
            return NOT_POSSIBLE;
        }
        if (hasMadeAll(site)) {
            return LIMIT_REACHED;
        }
        int id = log.addStroke(site, tick(site), pens);
        pens.empty(site);
        publish(site, id);
        return numberOf(id);
    }

    public int undo(int site) {
        if (!isSite(site)) {
            return INVALID_ARGUMENT;
        }
        return changeOwn(site, UNDO, lastVisibleOwn(site));
    }

    public int redo(int site) {
        if (!isSite(site)) {
            return INVALID_ARGUMENT;
        }
        return changeOwn(site, REDO, lastUndoneOwn(site));
    }

    public int lift(int site, int place, int layer) {
        if (!isSite(site) || place < 0 || !isWithin(layer, 0, MAX_LAYER)) {
            return INVALID_ARGUMENT;
        }
        board.show(log, knowledge, site);
        if (place >= board.strokeCount()) {
            return NOT_POSSIBLE;
        }
        if (hasMadeAll(site)) {
            return LIMIT_REACHED;
        }
        int id = log.addChange(site, tick(site), LIFT, board.strokeIn(place), layer);
        publish(site, id);
        return numberOf(id);
    }

    public int deliver(int from, int to) {
        if (!areTwoSites(from, to)) {
            return INVALID_ARGUMENT;
        }
        if (links.countIn(from, to) == 0) {
            return NOT_FOUND;
        }
        int id = links.messageIn(from, to, 0);
        links.dropFirst(from, to);
        receive(to, id);
        return 100 * authorOf(id) + numberOf(id);
    }

    public int lose(int from, int to) {
        if (!areTwoSites(from, to)) {
            return INVALID_ARGUMENT;
        }
        if (links.countIn(from, to) == 0) {
            return NOT_FOUND;
        }
        links.dropFirst(from, to);
        return links.countIn(from, to);
    }

    public int deliverAll() {
        int delivered = 0;
        for (int from = 0; from < siteCount; from++) {
            for (int to = 0; to < siteCount; to++) {
                delivered += deliverLink(from, to);
            }
        }
        return delivered;
    }

    public int waiting(int from, int to) {
        return areTwoSites(from, to) ? links.countIn(from, to) : INVALID_ARGUMENT;
    }

    public int gap(int site, int author, int index) {
        if (!isSite(site) || !isSite(author) || index < 0) {
            return INVALID_ARGUMENT;
        }
        int first = 0;
        int before = 0;
        // A gap is counted when a known number ends it: what lies above the greatest is none.
        for (int number = 1; number <= MAX_NUMBER; number++) {
            boolean isKnown = knowledge.has(site, idOf(author, number));
            if (!isKnown && first == 0) {
                first = number;
            }
            if (isKnown && first != 0) {
                if (before == index) {
                    return 100 * first + number - 1;
                }
                before++;
                first = 0;
            }
        }
        return NOT_FOUND;
    }

    public int repair(int site, int helper) {
        if (!areTwoSites(site, helper)) {
            return INVALID_ARGUMENT;
        }
        int received = 0;
        for (int id = 0; id < MAX_IDS; id++) {
            if (canRepair(site, helper, id)) {
                receive(site, id);
                received++;
            }
        }
        return received;
    }

    public int transfer(int site, int helper) {
        if (!areTwoSites(site, helper)) {
            return INVALID_ARGUMENT;
        }
        int size = 0;
        for (int id = 0; id < MAX_IDS; id++) {
            if (knowledge.has(helper, id) && !knowledge.has(site, id)) {
                receive(site, id);
                size += log.sizeOf(id);
            }
        }
        clocks.set(site, Math.max(clocks.get(site), clocks.get(helper)));
        return size;
    }

    public int operation(int author, int number, int what) {
        if (!isSite(author) || number < 1 || !isWithin(what, 0, 5)) {
            return INVALID_ARGUMENT;
        }
        if (number > log.madeBy(author)) {
            return NOT_FOUND;
        }
        int id = idOf(author, number);
        switch (what) {
            case 0:
                return log.kindOf(id);
            case 1:
                return log.timeOf(id);
            case 2:
                return log.sizeOf(id);
            case 3:
                return log.isStroke(id) ? log.ink.pointCount(id) : numberOf(log.targetOf(id));
            case 4:
                return log.kindOf(id) == LIFT ? authorOf(log.targetOf(id)) : author;
            default:
                return log.layerOf(id);
        }
    }

    public int knows(int site, int author, int number) {
        if (!isSite(site) || !isSite(author) || number < 1) {
            return INVALID_ARGUMENT;
        }
        if (number > log.madeBy(author)) {
            return NOT_FOUND;
        }
        return knowledge.has(site, idOf(author, number)) ? 1 : 0;
    }

    public int stroke(int site, int place, int what) {
        boolean asksPoint = isWithin(what, 10, 9 + 2 * MAX_POINTS);
        if (!isSite(site) || place < 0 || !asksPoint && !isWithin(what, 0, 4)) {
            return INVALID_ARGUMENT;
        }
        board.show(log, knowledge, site);
        if (place >= board.strokeCount()) {
            return NOT_FOUND;
        }
        int id = board.strokeIn(place);
        return asksPoint ? coordinate(id, what - 10) : strokeValue(id, what);
    }

    public int strokeAt(int site, int x, int y) {
        if (!isSite(site) || !isWithin(x, -100, 200) || !isWithin(y, -100, 200)) {
            return INVALID_ARGUMENT;
        }
        board.show(log, knowledge, site);
        for (int place = board.strokeCount() - 1; place >= 0; place--) {
            if (log.ink.hasPoint(board.strokeIn(place), x, y)) {
                return place;
            }
        }
        return NOT_FOUND;
    }

    public int digest(int site) {
        if (!isSite(site)) {
            return 0;
        }
        board.show(log, knowledge, site);
        return board.hash(log);
    }

    public int areSame(int a, int b) {
        if (!isSite(a) || !isSite(b)) {
            return INVALID_ARGUMENT;
        }
        return showSame(knowledge, a, b) ? 1 : 0;
    }

    public int differing() {
        lookAhead();
        int pairs = 0;
        for (int a = 0; a < siteCount; a++) {
            for (int b = a + 1; b < siteCount; b++) {
                if (!showSame(future, a, b)) {
                    pairs++;
                }
            }
        }
        return pairs;
    }

    public int bestHelper(int site) {
        if (!isSite(site)) {
            return INVALID_ARGUMENT;
        }
        int best = NOT_FOUND;
        int most = 0;
        for (int helper = 0; helper < siteCount; helper++) {
            int count = repairable(site, helper);
            if (count > most) {
                best = helper;
                most = count;
            }
        }
        return best;
    }

    public int endangered(int author) {
        if (!isSite(author)) {
            return INVALID_ARGUMENT;
        }
        int count = 0;
        for (int number = 1; number <= log.madeBy(author); number++) {
            int id = idOf(author, number);
            if (!isKnownBeside(author, id) && !links.carry(id)) {
                count++;
            }
        }
        return count;
    }

    private static boolean isWithin(int value, int least, int most) {
        return value >= least && value <= most;
    }

    private boolean isSite(int site) {
        return isWithin(site, 0, siteCount - 1);
    }

    private boolean areTwoSites(int a, int b) {
        return isSite(a) && isSite(b) && a != b;
    }

    private boolean hasMadeAll(int site) {
        return log.madeBy(site) >= MAX_NUMBER;
    }

    /** An operation's id tells its author and number, and orders ids by author, then number. */
    private static int idOf(int author, int number) {
        return author * MAX_NUMBER + number - 1;
    }

    private static int authorOf(int id) {
        return id / MAX_NUMBER;
    }

    private static int numberOf(int id) {
        return id % MAX_NUMBER + 1;
    }

    private int tick(int site) {
        clocks.set(site, clocks.get(site) + 1);
        return clocks.get(site);
    }

    private void publish(int site, int id) {
        knowledge.learn(site, id);
        for (int to = 0; to < siteCount; to++) {
            if (to != site) {
                links.send(site, to, id);
            }
        }
    }

    private void receive(int site, int id) {
        knowledge.learn(site, id);
        clocks.set(site, Math.max(clocks.get(site), log.timeOf(id)));
    }

    private int changeOwn(int site, int kind, int target) {
        if (target == NONE) {
            return NOT_POSSIBLE;
        }
        if (hasMadeAll(site)) {
            return LIMIT_REACHED;
        }
        publish(site, log.addChange(site, tick(site), kind, target, NO_LAYER));
        return numberOf(target);
    }

    private int lastVisibleOwn(int site) {
        board.show(log, knowledge, site);
        for (int number = log.madeBy(site); number >= 1; number--) {
            int id = idOf(site, number);
            if (log.isStroke(id) && !board.isUndone(id)) {
                return id;
            }
        }
        return NONE;
    }

    private int lastUndoneOwn(int site) {
        board.show(log, knowledge, site);
        for (int number = log.madeBy(site); number >= 1; number--) {
            int id = idOf(site, number);
            if (log.kindOf(id) == UNDO && board.isUndone(log.targetOf(id))) {
                return log.targetOf(id);
            }
        }
        return NONE;
    }

    private int deliverLink(int from, int to) {
        int count = links.countIn(from, to);
        for (int k = 0; k < count; k++) {
            receive(to, links.messageIn(from, to, 0));
            links.dropFirst(from, to);
        }
        return count;
    }

    private boolean canRepair(int site, int helper, int id) {
        return knowledge.isInGap(site, id) && knowledge.has(helper, id);
    }

    private int repairable(int site, int helper) {
        int count = 0;
        for (int id = 0; id < MAX_IDS; id++) {
            if (canRepair(site, helper, id)) {
                count++;
            }
        }
        return count;
    }

    private int strokeValue(int id, int what) {
        switch (what) {
            case 0:
                return authorOf(id);
            case 1:
                return numberOf(id);
            case 2:
                return board.layerOf(id);
            case 3:
                return log.ink.colorOf(id);
            default:
                return log.ink.pointCount(id);
        }
    }

    private int coordinate(int id, int place) {
        int point = place / 2;
        if (point >= log.ink.pointCount(id)) {
            return NOT_FOUND;
        }
        return place % 2 == 0 ? log.ink.xOf(id, point) : log.ink.yOf(id, point);
    }

    private boolean showSame(Knowledge source, int a, int b) {
        board.show(log, source, a);
        secondBoard.show(log, source, b);
        return board.matches(secondBoard);
    }

    /** What every site would know if all messages of all links were delivered. */
    private void lookAhead() {
        future.copyFrom(knowledge);
        for (int from = 0; from < siteCount; from++) {
            for (int to = 0; to < siteCount; to++) {
                for (int k = 0; k < links.countIn(from, to); k++) {
                    future.learn(to, links.messageIn(from, to, k));
                }
            }
        }
    }

    private boolean isKnownBeside(int author, int id) {
        for (int site = 0; site < siteCount; site++) {
            if (site != author && knowledge.has(site, id)) {
                return true;
            }
        }
        return false;
    }

    /** Numbers, 0 at first. No other class uses an array, so each index is looked at here. */
    private static final class Row {
        private final int[] cells;

        Row(int length) {
            cells = new int[Math.max(length, 0)];
        }

        int get(int index) {
            return index >= 0 && index < cells.length ? cells[index] : 0;
        }

        void set(int index, int value) {
            if (index >= 0 && index < cells.length) {
                cells[index] = value;
            }
        }

        void fill(int value) {
            for (int k = 0; k < cells.length; k++) {
                cells[k] = value;
            }
        }

        void copyFrom(Row source) {
            for (int k = 0; k < cells.length; k++) {
                cells[k] = source.get(k);
            }
        }
    }

    /** Drawn points with a color and a layer, a slot for each pen or for each operation. */
    private static final class Ink {
        private final Row counts;
        private final Row colors;
        private final Row layers;
        private final Row xs;
        private final Row ys;

        Ink(int slots) {
            counts = new Row(slots);
            colors = new Row(slots);
            layers = new Row(slots);
            xs = new Row(slots * MAX_POINTS);
            ys = new Row(slots * MAX_POINTS);
        }

        void clear() {
            counts.fill(0);
        }

        void empty(int slot) {
            counts.set(slot, 0);
        }

        void start(int slot, int color, int layer) {
            empty(slot);
            colors.set(slot, color);
            layers.set(slot, layer);
        }

        void addPoint(int slot, int x, int y) {
            int count = counts.get(slot);
            if (count < MAX_POINTS) {
                xs.set(slot * MAX_POINTS + count, x);
                ys.set(slot * MAX_POINTS + count, y);
                counts.set(slot, count + 1);
            }
        }

        void copyFrom(Ink source, int from, int slot) {
            int count = source.pointCount(from);
            start(slot, source.colorOf(from), source.layerOf(from));
            for (int k = 0; k < count; k++) {
                addPoint(slot, source.xOf(from, k), source.yOf(from, k));
            }
        }

        int pointCount(int slot) {
            return counts.get(slot);
        }

        int colorOf(int slot) {
            return colors.get(slot);
        }

        int layerOf(int slot) {
            return layers.get(slot);
        }

        int xOf(int slot, int point) {
            return xs.get(slot * MAX_POINTS + point);
        }

        int yOf(int slot, int point) {
            return ys.get(slot * MAX_POINTS + point);
        }

        boolean hasPoint(int slot, int x, int y) {
            for (int k = 0; k < counts.get(slot); k++) {
                if (xOf(slot, k) == x && yOf(slot, k) == y) {
                    return true;
                }
            }
            return false;
        }

        int sizeOf(int slot) {
            int size = 4;
            for (int k = 1; k < counts.get(slot); k++) {
                boolean isShort = isWithin(xOf(slot, k) - xOf(slot, k - 1), -4, 3)
                        && isWithin(yOf(slot, k) - yOf(slot, k - 1), -4, 3);
                size += isShort ? 1 : 2;
            }
            return size;
        }
    }

    /** All operations that were made, each under its id, and their total order. */
    private static final class Log {
        private final Row made = new Row(MAX_SITES);
        private final Row kinds = new Row(MAX_IDS);
        private final Row times = new Row(MAX_IDS);
        private final Row targets = new Row(MAX_IDS);
        private final Row layers = new Row(MAX_IDS);
        private final Row order = new Row(MAX_IDS);
        private final Ink ink = new Ink(MAX_IDS);
        private int total;

        void clear() {
            made.fill(0);
            total = 0;
        }

        int addStroke(int author, int time, Ink pens) {
            int id = addOperation(author, time, STROKE);
            ink.copyFrom(pens, author, id);
            layers.set(id, ink.layerOf(id));
            return id;
        }

        int addChange(int author, int time, int kind, int target, int layer) {
            int id = addOperation(author, time, kind);
            targets.set(id, target);
            layers.set(id, layer);
            return id;
        }

        private int addOperation(int author, int time, int kind) {
            int number = made.get(author) + 1;
            int id = idOf(author, number);
            made.set(author, number);
            times.set(id, time);
            kinds.set(id, kind);
            insert(id);
            return id;
        }

        private void insert(int id) {
            int place = total;
            while (place > 0 && comesAfter(order.get(place - 1), id)) {
                order.set(place, order.get(place - 1));
                place--;
            }
            order.set(place, id);
            total++;
        }

        private boolean comesAfter(int id, int other) {
            int later = Integer.compare(times.get(id), times.get(other));
            return later > 0 || later == 0 && authorOf(id) > authorOf(other);
        }

        int madeBy(int author) {
            return made.get(author);
        }

        int totalCount() {
            return total;
        }

        int inOrder(int place) {
            return order.get(place);
        }

        int kindOf(int id) {
            return kinds.get(id);
        }

        boolean isStroke(int id) {
            return kinds.get(id) == STROKE;
        }

        int timeOf(int id) {
            return times.get(id);
        }

        int targetOf(int id) {
            return targets.get(id);
        }

        int layerOf(int id) {
            return layers.get(id);
        }

        int sizeOf(int id) {
            switch (kinds.get(id)) {
                case STROKE:
                    return ink.sizeOf(id);
                case LIFT:
                    return 4;
                default:
                    return 3;
            }
        }
    }

    /** Which operations each site knows. */
    private static final class Knowledge {
        private final Row known = new Row(MAX_SITES * MAX_IDS);

        void clear() {
            known.fill(0);
        }

        void copyFrom(Knowledge source) {
            known.copyFrom(source.known);
        }

        void learn(int site, int id) {
            known.set(site * MAX_IDS + id, 1);
        }

        boolean has(int site, int id) {
            return known.get(site * MAX_IDS + id) == 1;
        }

        int countOf(int site) {
            int count = 0;
            for (int id = 0; id < MAX_IDS; id++) {
                count += has(site, id) ? 1 : 0;
            }
            return count;
        }

        boolean isInGap(int site, int id) {
            return !has(site, id) && hasLaterOfAuthor(site, id);
        }

        private boolean hasLaterOfAuthor(int site, int id) {
            int author = authorOf(id);
            for (int number = numberOf(id) + 1; number <= MAX_NUMBER; number++) {
                if (has(site, idOf(author, number))) {
                    return true;
                }
            }
            return false;
        }
    }

    /** The messages of the link of each two sites in each direction, the first one in front. */
    private static final class Links {
        private final Row counts = new Row(LINKS);
        private final Row messages = new Row(LINKS * MAX_MESSAGES);

        void clear() {
            counts.fill(0);
        }

        void send(int from, int to, int id) {
            int link = from * MAX_SITES + to;
            int count = counts.get(link);
            if (count < MAX_MESSAGES) {
                messages.set(link * MAX_MESSAGES + count, id);
                counts.set(link, count + 1);
            }
        }

        int countIn(int from, int to) {
            return counts.get(from * MAX_SITES + to);
        }

        int messageIn(int from, int to, int place) {
            return messages.get((from * MAX_SITES + to) * MAX_MESSAGES + place);
        }

        void dropFirst(int from, int to) {
            int link = from * MAX_SITES + to;
            int rest = counts.get(link) - 1;
            int front = link * MAX_MESSAGES;
            for (int k = 0; k < rest; k++) {
                messages.set(front + k, messages.get(front + k + 1));
            }
            counts.set(link, Math.max(rest, 0));
        }

        boolean carry(int id) {
            for (int link = 0; link < LINKS; link++) {
                for (int k = 0; k < counts.get(link); k++) {
                    if (messages.get(link * MAX_MESSAGES + k) == id) {
                        return true;
                    }
                }
            }
            return false;
        }
    }

    /** The visible strokes of a site; what it tells holds until it shows another one. */
    private static final class Board {
        private final Row undone = new Row(MAX_IDS);
        private final Row layers = new Row(MAX_IDS);
        private final Row strokes = new Row(MAX_IDS);
        private int count;

        void show(Log log, Knowledge knowledge, int site) {
            int total = log.totalCount();
            undone.fill(0);
            layers.copyFrom(log.layers);
            count = 0;
            // In the total order, so that the last operation for a stroke has the last word.
            for (int k = 0; k < total; k++) {
                int id = log.inOrder(k);
                if (knowledge.has(site, id)) {
                    apply(log, id);
                }
            }
            for (int layer = 0; layer <= MAX_LAYER; layer++) {
                collect(log, knowledge, site, layer);
            }
        }

        private void apply(Log log, int id) {
            int target = log.targetOf(id);
            switch (log.kindOf(id)) {
                case UNDO:
                    undone.set(target, 1);
                    break;
                case REDO:
                    undone.set(target, 0);
                    break;
                case LIFT:
                    layers.set(target, log.layerOf(id));
                    break;
                default:
                    break;
            }
        }

        private void collect(Log log, Knowledge knowledge, int site, int layer) {
            int total = log.totalCount();
            for (int k = 0; k < total; k++) {
                int id = log.inOrder(k);
                if (log.isStroke(id) && layers.get(id) == layer && !isUndone(id)
                        && knowledge.has(site, id)) {
                    strokes.set(count, id);
                    count++;
                }
            }
        }

        boolean isUndone(int id) {
            return undone.get(id) == 1;
        }

        int strokeCount() {
            return count;
        }

        int strokeIn(int place) {
            return strokes.get(place);
        }

        int layerOf(int id) {
            return layers.get(id);
        }

        boolean matches(Board other) {
            if (count != other.count) {
                return false;
            }
            for (int place = 0; place < count; place++) {
                int id = strokes.get(place);
                if (id != other.strokeIn(place) || layers.get(id) != other.layerOf(id)) {
                    return false;
                }
            }
            return true;
        }

        int hash(Log log) {
            int h = 17;
            for (int place = 0; place < count; place++) {
                int id = strokes.get(place);
                h = 31 * h + authorOf(id);
                h = 31 * h + numberOf(id);
                h = 31 * h + layers.get(id);
                h = 31 * h + log.ink.colorOf(id);
                h = hashPoints(h, log.ink, id);
            }
            return h;
        }

        private int hashPoints(int before, Ink ink, int id) {
            int h = before;
            for (int k = 0; k < ink.pointCount(id); k++) {
                h = 31 * h + ink.xOf(id, k);
                h = 31 * h + ink.yOf(id, k);
            }
            return h;
        }
    }
}
