import java.util.Set;
import java.util.TreeSet;

/** Counts tests and tells every answer that is not the one that is due. */
final class Checks {
    static final int INVALID = -1000000001;
    static final int IMPOSSIBLE = -1000000002;
    static final int LIMIT = -1000000003;
    static final int MISSING = -1000000004;

    /** Values outside of every range of the document, the greatest ones of the machine too. */
    static final int[] FAR = {Integer.MIN_VALUE, Integer.MIN_VALUE + 1, -1000000, 1000000, Integer.MAX_VALUE};

    private final Set<String> titles = new TreeSet<>();
    private int passed;
    private int failed;
    private int wrong;
    private String name = "";

    interface Test {
        void run(Checks due);
    }

    void test(String title, Test test) {
        name = title;
        wrong = 0;
        holds("no other test is named so", titles.add(title));
        try {
            test.run(this);
        } catch (RuntimeException | Error thrown) {
            wrong++;
            System.out.println(name + ": threw " + thrown);
        }
        if (wrong == 0) {
            passed++;
        } else {
            failed++;
        }
    }

    void is(String call, int got, int want) {
        if (got != want) {
            wrong++;
            if (wrong <= 10) {
                System.out.println(name + ": " + call + " answered " + got + ", due is " + want);
            }
        }
    }

    void holds(String what, boolean isSo) {
        is(what, isSo ? 1 : 0, 1);
    }

    /** The calls that are due to be refused must leave all that a caller can see as it was. */
    void unchanged(String calls, Played board, Runnable run) {
        String before = Snapshot.of(board);
        run.run();
        String after = Snapshot.of(board);
        holds("nothing changed by " + calls, before.equals(after));
    }

    boolean hasTestOf(String start) {
        for (String title : titles) {
            if (title.startsWith(start)) {
                return true;
            }
        }
        return false;
    }

    int passed() {
        return passed;
    }

    int failed() {
        return failed;
    }
}
