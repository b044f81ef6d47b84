import java.io.IOException;
import java.lang.management.ManagementFactory;
import java.nio.file.Files;
import java.nio.file.Path;
import java.util.List;

/** The rules of LANGUAGE.md, and the room in which all calls of one run live. */
final class LanguageTests {
    private static final Path SOURCE = Path.of("src/main/java/StrokeBoard.java");

    /**
     * The room holds 600,000 objects and 7,300,000 fields and elements. Each of those takes a byte or
     * more, and an object 16 or more: a run that takes no more bytes than this is within the room.
     */
    private static final long ROOM = 7_300_000;

    /** A rule's number, then lines within the class that stand outside that rule. */
    private static final String[][] OUTSIDE = {
        {"1", "public static class Seen { }"},
        {"1", "protected static class Seen { }"},
        {"2", "class Inner { }"},
        {"2", "void f() { class Local { } }"},
        {"2", "static class Own { } Own f() { return new Own() { }; }"},
        {"2", "interface Call { int on(int x); } void f() { Call c = x -> x; }"},
        {"2", "interface Call { int on(int x); } void f() { Call c = Math::abs; }"},
        {"2", "enum Kind { A { int f() { return 1; } }; int f() { return 0; } }"},
        {"3", "java.util.HashMap<Integer, Integer> map;"},
        {"3", "int[][][] rows;"},
        {"3", "boolean[][] rows;"},
        {"3", "String[] names;"},
        {"3", "static class Own { } Own[][] rows;"},
        {"3", "Object f() { return null; }"},
        {"3", "void f(Long value) { }"},
        {"4", "void f() { System.exit(1); }"},
        {"4", "void f() { System.out.println(1); }"},
        {"4", "long f() { return System.nanoTime(); }"},
        {"4", "double f() { return Math.random(); }"},
        {"4", "int f() { return Math.addExact(1, 2); }"},
        {"4", "int f(int[] a) { return java.util.Arrays.hashCode(a); }"},
        {"4", "int f(String s) { return s.hashCode(); }"},
        {"4", "int f() { return Integer.MAX_VALUE; }"},
        {"4", "void f() { new Thread(); }"},
        {"4", "String f() { return \"\\u00e9\"; }"},
        {"5", "private static int count;"},
        {"5", "private static final int[] ROW = new int[3];"},
        {"5", "private static final double HALF = 0.5;"},
        {"5", "static { int x = 1; }"},
        {"6", "void f() { throw null; }"},
        {"6", "void f() { try { int x = 1; } finally { int y = 2; } }"},
        {"6", "void f() throws Exception { }"},
        {"6", "void f() { synchronized (this) { } }"},
        {"6", "void f(int x) { assert x > 0; }"},
        {"6", "boolean f(String a, String b) { return a == b; }"},
        {"6", "boolean f(Integer a, Integer b) { return a != b; }"},
        {"9", "void f() { while (true) { } }"},
        {"9", "void f() { for (int k = 0; ; k++) { } }"},
        {"9", "void f() { do { } while (true); }"},
        {"10", "String f(int x) { return \"a\" + x; }"},
        {"10", "String f(String x) { x += 1; return x; }"},
        {"11", "void f(int a, int b, int c, int d, int e, int f, int g, int h) { }"},
        {"11", "void f() {" + "\n".repeat(61) + "}"},
        {"11", "int " + numbered("a%d, ", 20) + "last;"},
        {"11", numbered("static class C%d { } ", 12)},
        {"11", numbered("void f%d() { f%d(); } ", 8) + "void f8() { }"},
    };

    /** Lines within the class that the rules allow, so that the tests ask for no more than they do. */
    private static final String[] WITHIN = {
        "static final class Own { } private Own[] row = new Own[3]; private int[][] rows = new int[2][3];",
        "private static final int[] ROW = {1, 2, 3}; private static final String NAME = \"a\";",
        "enum Kind { A, B; int f() { return 1; } } Kind f(int x) { return x > 0 ? Kind.A : Kind.B; }",
        "record Pair(int a, int b) { } int f(Pair p) { return p.a() + p.b(); }",
        "interface Shape { int f(); } record Dot(int x) implements Shape { public int f() { return x; } }",
        "interface S { } record Dot(int x) implements S { } int f(S s) { return s instanceof Dot d ? d.x() : 0; }",
        "interface S { } record Dot(int x) implements S { } int f(S s) { return s instanceof Dot ? ((Dot) s).x() : 0; }",
        "private String f() { StringBuilder b = new StringBuilder(); b.append('a').append(1); return b.toString(); }",
        "private boolean f(String a, String b) { return a.equals(b) && a.length() > 1 && a.charAt(0) == 'a'; }",
        "private int f(ArrayList<Integer> list) { list.add(0, 1); return list.size() > 0 ? list.get(0) : 0; }",
        "private int[] f(int[] a) { System.arraycopy(a, 0, a, 1, 2); return Arrays.copyOf(a.clone(), 3); }",
        "private int f(int x) { return Math.max(Integer.bitCount(x), Integer.compare(x, 1)) + (int) 1.5; }",
        "private static int f(int x, int depth) { return depth > 5 ? 0 : f(x, depth + 1); }",
        "private int f(int x) { do { x--; } while (x > 0); for (;x < 3;) { x++; } return x; }",
        numbered("private int f%d() { return f%d(); } ", 7) + "private int f7() { return 1; }",
        numbered("private int a%d; ", 20) + numbered("static class C%d { } ", 11),
    };

    private LanguageTests() {
    }

    static void all(Checks checks) {
        checks.test("LANGUAGE.md: the program keeps to its rules", LanguageTests::keepsToRules);
        for (int k = 0; k < OUTSIDE.length; k++) {
            String rule = "rule " + OUTSIDE[k][0] + ":";
            String lines = OUTSIDE[k][1];
            checks.test("LANGUAGE.md: what stands outside " + rule + " is found, lines " + k, due -> {
                List<String> found = Language.offences(program(lines));
                due.holds("found in " + lines + ": " + found, !found.isEmpty());
                for (String offence : found) {
                    due.holds("found in " + lines + ": " + offence, offence.startsWith(rule));
                }
            });
        }
        checks.test("LANGUAGE.md: what the rules allow is not found", due -> {
            for (String lines : WITHIN) {
                List<String> found = Language.offences(program(lines));
                due.holds("nothing found in " + lines + ": " + found, found.isEmpty());
            }
        });
        checks.test("one room: the dearest calls of a run", LanguageTests::room);
    }

    private static String numbered(String form, int count) {
        StringBuilder text = new StringBuilder();
        for (int k = 0; k < count; k++) {
            text.append(String.format(form, k, k + 1));
        }
        return text.toString();
    }

    private static String program(String lines) {
        return "import java.util.ArrayList; import java.util.Arrays; public final class StrokeBoard {\n"
                + lines + "\n}";
    }

    private static void keepsToRules(Checks due) {
        try {
            for (String offence : Language.offences(Files.readString(SOURCE))) {
                due.holds(offence, false);
            }
        } catch (IOException unreadable) {
            throw new IllegalStateException("run the tests from the project's folder", unreadable);
        }
    }

    private static long bytesOfThread() {
        return ((com.sun.management.ThreadMXBean) ManagementFactory.getThreadMXBean())
                .getThreadAllocatedBytes(Thread.currentThread().getId());
    }

    /** 512 calls on one object, each method among them, on boards as full as they can be. */
    private static void room(Checks due) {
        long before = bytesOfThread();
        StrokeBoard board = new StrokeBoard();
        board.reset(5);
        for (int site = 0; site < 5; site++) {
            for (int k = 0; k < 20; k++) {
                board.penDown(site, k, k, 1, 1);
                board.penUp(site);
            }
            board.transfer((site + 1) % 5, site);
        }
        board.deliverAll();
        for (int round = 0; round < 12; round++) {
            int site = round % 5;
            askAll(board, site, (site + 1) % 5);
        }
        long bytes = bytesOfThread() - before;
        due.holds("the run takes " + bytes + " bytes", bytes > 0 && bytes <= ROOM);
    }

    private static void askAll(StrokeBoard board, int site, int other) {
        board.join();
        board.sites();
        board.siteInfo(site, 3);
        board.penDown(site, 1, 1, 1, 1);
        board.penMove(site, 1, 1);
        board.penUp(site);
        board.undo(site);
        board.redo(site);
        board.lift(site, 0, 3);
        board.deliver(site, other);
        board.lose(site, other);
        board.deliverAll();
        board.waiting(site, other);
        board.gap(site, other, 0);
        board.repair(site, other);
        board.transfer(site, other);
        board.operation(site, 1, 2);
        board.knows(site, other, 1);
        board.stroke(site, 0, 10);
        board.strokeAt(site, 1, 1);
        board.digest(site);
        board.areSame(site, other);
        board.differing();
        board.bestHelper(site);
        board.endangered(site);
    }
}
