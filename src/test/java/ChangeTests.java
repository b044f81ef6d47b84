import java.util.Map;
import java.util.Set;
import java.util.TreeSet;

/** Each call that changes something: which parts of the state change, and that no other part does. */
final class ChangeTests {
    private ChangeTests() {
    }

    static void all(Checks checks) {
        sites(checks);
        pens(checks);
        operations(checks);
        operationsAndLinks(checks);
        links(checks);
        repairs(checks);
    }

    private static void changes(Checks checks, String name, Edges.Start start, Edges.Call call,
            Set<String> parts) {
        checks.test(name, due -> {
            Played board = start.make();
            Map<String, String> before = Parts.of(board);
            due.holds("the call is no error", call.on(board) >= 0);
            Set<String> changed = Parts.changed(before, Parts.of(board));
            due.holds("changed are " + changed, changed.equals(parts));
        });
    }

    /** The parts that change when one of three sites makes an operation, but for its pen. */
    private static Set<String> made(int site, String... others) {
        Set<String> parts = new TreeSet<>(Set.of("clock " + site, "made " + site, "known " + site,
                "board " + site, "link " + site + " " + (site + 1) % 3,
                "link " + site + " " + (site + 2) % 3));
        parts.addAll(Set.of(others));
        return parts;
    }

    private static Set<String> without(Set<String> parts, String... left) {
        Set<String> rest = new TreeSet<>(parts);
        rest.removeAll(Set.of(left));
        return rest;
    }

    private static void sites(Checks checks) {
        changes(checks, "promise 2: reset changes each site, pen and link", Draw::busy,
                board -> board.reset(3), without(Parts.of(Draw.busy()).keySet(), "sites"));
        changes(checks, "promise 3: join adds a site and its links, and changes nothing else", Draw::busy,
                Played::join, Set.of("sites", "clock 3", "pen 3", "made 3", "known 3", "board 3", "link 0 3",
                        "link 1 3", "link 2 3", "link 3 0", "link 3 1", "link 3 2"));
    }

    private static void pens(Checks checks) {
        for (int k = 0; k < 3; k++) {
            int site = k;
            changes(checks, "promise 6: penDown changes the pen alone, of site " + site, Draw::busy,
                    board -> board.penDown(site, 30, 31, 6, 0), Set.of("pen " + site));
            changes(checks, "promise 7: penMove changes the pen alone, of site " + site, Draw::busy,
                    board -> board.penMove(site, 1, 0), Set.of("pen " + site));
            changes(checks, "promise 8: penUp changes the pen and adds an operation, of site " + site,
                    Draw::busy, board -> board.penUp(site), made(site, "pen " + site));
        }
        checks.test("promise 8: penUp makes the stroke that its own pen has drawn", due -> {
            Played board = Draw.withSites(5);
            for (int site = 0; site < 5; site++) {
                board.penDown(site, 10 * site, 60 - site, 7 - site, site % 4);
                board.penMove(site, site, -site);
            }
            for (int site = 4; site >= 0; site--) {
                due.is("penUp", board.penUp(site), 1);
                int[] want = {site, 1, site % 4, 7 - site, 2};
                for (int what = 0; what <= 4; what++) {
                    due.is("value " + what + " of site " + site, board.stroke(site, 0, what), want[what]);
                }
                due.is("x", board.stroke(site, 0, 10), 10 * site);
                due.is("y", board.stroke(site, 0, 11), 60 - site);
                due.is("x of the second point", board.stroke(site, 0, 12), 11 * site);
                due.is("y of the second point", board.stroke(site, 0, 13), 60 - 2 * site);
            }
        });
    }

    /** Each of three sites has undone its only stroke; the pens are down. */
    private static Played undone() {
        Played board = Draw.withSites(3);
        for (int site = 0; site < 3; site++) {
            Draw.dot(board, site, site, site, site, site);
            board.undo(site);
            board.penDown(site, 1, 2, 3, 1);
        }
        return board;
    }

    private static void operations(Checks checks) {
        for (int k = 0; k < 3; k++) {
            int site = k;
            changes(checks, "promise 9: undo adds an operation, and leaves the pen, of site " + site,
                    Draw::busy, board -> board.undo(site), made(site));
            changes(checks, "promise 10: redo adds an operation, and leaves the pen, of site " + site,
                    ChangeTests::undone, board -> board.redo(site), made(site));
            changes(checks, "promise 11: lift adds an operation, and leaves the pen, of site " + site,
                    Draw::busy, board -> board.lift(site, 0, 2), made(site));
        }
        changes(checks, "promise 11: lift to the layer that the stroke has leaves the board", Draw::busy,
                board -> board.lift(2, 0, 3), without(made(2), "board 2"));
    }

    /** The link from site 0 to site 1 is full, the one to site 2 has room; the pen is down. */
    private static Played fullLink() {
        Played board = Draw.withSites(3);
        Draw.dots(board, 0, 10);
        board.deliver(0, 2);
        board.penDown(0, 1, 2, 3, 1);
        return board;
    }

    private static void operationsAndLinks(Checks checks) {
        changes(checks, "promise 8: penUp leaves a full link", ChangeTests::fullLink,
                board -> board.penUp(0), without(made(0, "pen 0"), "link 0 1"));
        changes(checks, "promise 9: undo leaves a full link", ChangeTests::fullLink,
                board -> board.undo(0), without(made(0), "link 0 1"));
        changes(checks, "promise 11: lift leaves a full link", ChangeTests::fullLink,
                board -> board.lift(0, 0, 3), without(made(0), "link 0 1"));
        changes(checks, "promise 10: redo leaves a full link", () -> {
            Played board = fullLink();
            board.undo(0);
            board.deliver(0, 2);
            return board;
        }, board -> board.redo(0), without(made(0), "link 0 1"));
    }

    private static void links(Checks checks) {
        changes(checks, "promise 12: deliver changes the link and the receiver alone", Draw::busy,
                board -> board.deliver(0, 1), Set.of("link 0 1", "known 1", "board 1"));
        changes(checks, "promise 12: deliver of a later time also changes the receiver's clock", () -> {
            Played board = Draw.busy();
            board.deliver(0, 1);
            return board;
        }, board -> board.deliver(0, 1), Set.of("link 0 1", "known 1", "board 1", "clock 1"));
        changes(checks, "promise 12: deliver to the first site", Draw::busy,
                board -> board.deliver(2, 0), Set.of("link 2 0", "known 0", "board 0"));
        changes(checks, "promise 12: deliver of what is known changes the link alone", () -> {
            Played board = Draw.busy();
            board.transfer(1, 0);
            return board;
        }, board -> board.deliver(0, 1), Set.of("link 0 1"));
        changes(checks, "promise 13: lose changes the link alone", Draw::busy,
                board -> board.lose(0, 1), Set.of("link 0 1"));
        changes(checks, "promise 14: deliverAll changes the links and the receivers alone", Draw::busy,
                Played::deliverAll, Set.of("link 0 1", "link 0 2", "link 1 0", "link 1 2", "link 2 0",
                        "link 2 1", "known 0", "known 1", "known 2", "board 0", "board 1", "board 2",
                        "clock 1", "clock 2"));
    }

    private static void repairs(Checks checks) {
        changes(checks, "promise 17: repair changes what the site knows and shows alone", Draw::busy,
                board -> board.repair(1, 0), Set.of("known 1", "board 1"));
        changes(checks, "promise 18: transfer changes what the site knows and shows, and its clock", Draw::busy,
                board -> board.transfer(1, 0), Set.of("known 1", "board 1", "clock 1"));
        changes(checks, "promise 18: transfer leaves a clock that is greater", Draw::busy,
                board -> board.transfer(0, 1), Set.of("known 0", "board 0"));
        changes(checks, "promise 18: transfer of what is known already changes nothing", () -> {
            Played board = Draw.busy();
            board.deliverAll();
            board.transfer(1, 0);
            return board;
        }, board -> board.transfer(1, 0), Set.of());
    }
}
