/** Long runs of calls, each answer compared with the one of Model; the same runs each time. */
final class ModelTests {
    private static final int RUNS = 1500;

    private final Played board = new Played();
    private final Model model = new Model();
    private final Checks due;
    private final int[] weights;
    private long state;

    private ModelTests(Checks due, long seed, int[] weights) {
        this.due = due;
        this.weights = weights;
        this.state = seed * 2862933555777941757L + 3037000493L;
    }

    static void all(Checks checks) {
        int[] mixed = {8, 6, 8, 5, 5, 8, 8, 8, 2, 8, 8, 30, 30, 6, 1, 1};
        int[] lossy = {8, 2, 8, 3, 2, 4, 6, 16, 1, 10, 3, 20, 25, 4, 1, 1};
        int[] hasty = {16, 3, 16, 6, 6, 10, 2, 1, 1, 3, 3, 15, 15, 2, 0, 1};
        int[] wild = {6, 6, 6, 6, 6, 6, 6, 6, 2, 6, 6, 30, 30, 60, 1, 2};
        runs(checks, "model: mixed runs", 1, mixed);
        runs(checks, "model: lossy runs", 2, lossy);
        runs(checks, "model: hasty runs", 3, hasty);
        runs(checks, "model: runs with wrong inputs", 4, wild);
    }

    private static void runs(Checks checks, String name, int kind, int[] weights) {
        checks.test(name, due -> {
            for (int run = 0; run < RUNS; run++) {
                new ModelTests(due, 7919L * run + kind, weights).run(run);
            }
        });
    }

    /** A number from 0 to bound - 1, of a sequence that is the same in each run of the tests. */
    private int pick(int bound) {
        state = state * 6364136223846793005L + 1442695040888963407L;
        return (int) ((state >>> 33) % bound);
    }

    private int between(int least, int most) {
        return least + pick(most - least + 1);
    }

    private int site() {
        return pick(40) == 0 ? between(-1, 5) : pick(model.sites());
    }

    private int other(int site) {
        int sites = model.sites();
        return sites < 2 || pick(40) == 0 ? site() : (site + 1 + pick(sites - 1)) % sites;
    }

    /** A value of a range, now and then one just outside of it. */
    private int value(int least, int most) {
        return pick(12) == 0 ? (pick(2) == 0 ? least : most) : between(least, most);
    }

    private int near(int least, int most) {
        return pick(60) == 0 ? (pick(2) == 0 ? least - 1 : most + 1) : value(least, most);
    }

    private int wild() {
        int[] values = {Integer.MIN_VALUE, Integer.MAX_VALUE, -1, 0, 1, 2, 4, 5, 9, 10, 20, 21, 25, 64, 200};
        return pick(3) == 0 ? Checks.FAR[pick(Checks.FAR.length)] : values[pick(values.length)];
    }

    private void run(int number) {
        int sites = between(1, 5);
        int skewed = sites == 1 && pick(3) > 0 ? 3 : sites;
        same("run " + number + ": reset(" + skewed + ")", board.reset(skewed), model.reset(skewed));
        // A step asks for the object's calls up to its last one; not every step makes a call.
        for (int step = 1; board.callsLeft() > 0; step++) {
            step("run " + number + ", step " + step + ": ", weighted());
        }
    }

    private int weighted() {
        int sum = 0;
        for (int weight : weights) {
            sum += weight;
        }
        int left = pick(sum);
        int choice = 0;
        while (left >= weights[choice]) {
            left -= weights[choice];
            choice++;
        }
        return choice;
    }

    private void same(String call, int got, int want) {
        due.is(call, got, want);
    }

    private void step(String run, int choice) {
        int a = site();
        int b = other(a);
        switch (choice) {
            case 0: penDown(run, a); break;
            case 1: penMove(run, a); break;
            case 2: same(run + "penUp(" + a + ")", board.penUp(a), model.penUp(a)); break;
            case 3: same(run + "undo(" + a + ")", board.undo(a), model.undo(a)); break;
            case 4: same(run + "redo(" + a + ")", board.redo(a), model.redo(a)); break;
            case 5: lift(run, a); break;
            case 6: same(run + "deliver(" + a + ", " + b + ")", board.deliver(a, b), model.deliver(a, b)); break;
            case 7: same(run + "lose(" + a + ", " + b + ")", board.lose(a, b), model.lose(a, b)); break;
            case 8: same(run + "deliverAll()", board.deliverAll(), model.deliverAll()); break;
            case 9: same(run + "repair(" + a + ", " + b + ")", board.repair(a, b), model.repair(a, b)); break;
            case 10: transfer(run, a, b); break;
            case 11: askSite(run, a, b); break;
            case 12: askBoard(run, a, b); break;
            case 13: callWild(run); break;
            case 14: reset(run); break;
            default: same(run + "join()", board.join(), model.join()); break;
        }
    }

    private void penDown(String run, int site) {
        int x = near(0, 63);
        int y = near(0, 63);
        int color = near(0, 7);
        int layer = near(0, 3);
        same(run + "penDown(" + site + ", " + x + ", " + y + ", " + color + ", " + layer + ")",
                board.penDown(site, x, y, color, layer), model.penDown(site, x, y, color, layer));
    }

    private void penMove(String run, int site) {
        int times = Math.min(pick(10) == 0 ? 8 : 1, board.callsLeft());
        for (int k = 0; k < times; k++) {
            int dx = near(-8, 8);
            int dy = near(-8, 8);
            same(run + "penMove(" + site + ", " + dx + ", " + dy + ")",
                    board.penMove(site, dx, dy), model.penMove(site, dx, dy));
        }
    }

    private void lift(String run, int site) {
        int count = Math.max(model.siteInfo(site, 3), 0);
        int place = pick(30) == 0 ? between(-1, count + 1) : pick(count + 1);
        int layer = near(0, 3);
        same(run + "lift(" + site + ", " + place + ", " + layer + ")",
                board.lift(site, place, layer), model.lift(site, place, layer));
    }

    /** Transfers are kept rare among near sites: they close the gaps that the others need. */
    private void transfer(String run, int site, int helper) {
        if (pick(4) == 0) {
            same(run + "transfer(" + site + ", " + helper + ")",
                    board.transfer(site, helper), model.transfer(site, helper));
        }
    }

    private void reset(String run) {
        if (pick(6) == 0) {
            int sites = between(0, 6);
            same(run + "reset(" + sites + ")", board.reset(sites), model.reset(sites));
        }
    }

    private void askSite(String run, int a, int b) {
        int number = near(1, 20);
        int what = near(0, 5);
        switch (pick(8)) {
            case 0: same(run + "siteInfo(" + a + ", " + what + ")", board.siteInfo(a, what), model.siteInfo(a, what)); break;
            case 1: same(run + "waiting(" + a + ", " + b + ")", board.waiting(a, b), model.waiting(a, b)); break;
            case 2: same(run + "gap(" + a + ", " + b + ", " + (what - 1) + ")", board.gap(a, b, what - 1), model.gap(a, b, what - 1)); break;
            case 3: same(run + "gap(" + a + ", " + b + ", 0)", board.gap(a, b, 0), model.gap(a, b, 0)); break;
            case 4: same(run + "operation(" + a + ", " + number + ", " + what + ")",
                    board.operation(a, number, what), model.operation(a, number, what)); break;
            case 5: same(run + "knows(" + a + ", " + b + ", " + number + ")", board.knows(a, b, number), model.knows(a, b, number)); break;
            case 6: same(run + "bestHelper(" + a + ")", board.bestHelper(a), model.bestHelper(a)); break;
            default: same(run + "endangered(" + a + ")", board.endangered(a), model.endangered(a)); break;
        }
    }

    private void askBoard(String run, int a, int b) {
        int place = pick(Math.max(model.siteInfo(a, 3), 0) + 1);
        int what = near(0, 25);
        switch (pick(6)) {
            case 0: same(run + "stroke(" + a + ", " + place + ", " + what + ")", board.stroke(a, place, what), model.stroke(a, place, what)); break;
            case 1: askPoint(run, a, place); break;
            case 2: same(run + "digest(" + a + ")", board.digest(a), model.digest(a)); break;
            case 3: same(run + "areSame(" + a + ", " + b + ")", board.areSame(a, b), model.areSame(a, b)); break;
            case 4: same(run + "differing()", board.differing(), model.differing()); break;
            default: same(run + "sites()", board.sites(), model.sites()); break;
        }
    }

    private void askPoint(String run, int site, int place) {
        int point = pick(8);
        int x = model.stroke(site, place, 10 + 2 * point);
        int y = model.stroke(site, place, 11 + 2 * point);
        same(run + "strokeAt(" + site + ", " + x + ", " + y + ")", board.strokeAt(site, x, y), model.strokeAt(site, x, y));
    }

    private void callWild(String run) {
        int a = wild();
        int b = wild();
        int c = wild();
        String of = "(" + a + ", " + b + ", " + c + ")";
        switch (pick(20)) {
            case 0: same(run + "reset" + of, board.reset(Math.min(a, 0)), model.reset(Math.min(a, 0))); break;
            case 1: same(run + "siteInfo" + of, board.siteInfo(a, b), model.siteInfo(a, b)); break;
            case 2: same(run + "penDown" + of, board.penDown(a, b, c, b, c), model.penDown(a, b, c, b, c)); break;
            case 3: same(run + "penMove" + of, board.penMove(a, b, c), model.penMove(a, b, c)); break;
            case 4: same(run + "penUp" + of, board.penUp(a), model.penUp(a)); break;
            case 5: same(run + "undo" + of, board.undo(a), model.undo(a)); break;
            case 6: same(run + "redo" + of, board.redo(a), model.redo(a)); break;
            case 7: same(run + "lift" + of, board.lift(a, b, c), model.lift(a, b, c)); break;
            case 8: same(run + "deliver" + of, board.deliver(a, b), model.deliver(a, b)); break;
            case 9: same(run + "lose" + of, board.lose(a, b), model.lose(a, b)); break;
            case 10: same(run + "waiting" + of, board.waiting(a, b), model.waiting(a, b)); break;
            case 11: same(run + "gap" + of, board.gap(a, b, c), model.gap(a, b, c)); break;
            case 12: same(run + "repair" + of, board.repair(a, b), model.repair(a, b)); break;
            case 13: same(run + "transfer" + of, board.transfer(a, b), model.transfer(a, b)); break;
            case 14: same(run + "operation" + of, board.operation(a, b, c), model.operation(a, b, c)); break;
            case 15: same(run + "knows" + of, board.knows(a, b, c), model.knows(a, b, c)); break;
            case 16: same(run + "stroke" + of, board.stroke(a, b, c), model.stroke(a, b, c)); break;
            case 17: same(run + "strokeAt" + of, board.strokeAt(a, b, c), model.strokeAt(a, b, c)); break;
            case 18: same(run + "areSame" + of, board.areSame(a, b), model.areSame(a, b)); break;
            default: same(run + "digest" + of, board.digest(a), model.digest(a)); break;
        }
    }
}
