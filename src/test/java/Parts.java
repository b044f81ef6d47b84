import java.util.Map;
import java.util.TreeMap;
import java.util.TreeSet;
import java.util.Set;

/**
 * The state of a board in parts, each of which a caller can see without the others: the number of
 * sites, and for each site its clock, its pen, what it made, knows and shows, and its links. The calls
 * are made on new objects in the same state.
 */
final class Parts {
    private final Played asked;
    private final Map<String, String> parts = new TreeMap<>();

    private Parts(Played asked) {
        this.asked = asked;
        int sites = asked.again().sites();
        parts.put("sites", String.valueOf(sites));
        for (int site = 0; site < sites; site++) {
            parts.put("clock " + site, String.valueOf(asked.again().siteInfo(site, 0)));
            parts.put("pen " + site, pen(site));
            parts.put("made " + site, made(site));
            parts.put("known " + site, known(site, sites));
            parts.put("board " + site, board(site));
            for (int to = 0; to < sites; to++) {
                if (to != site) {
                    parts.put("link " + site + " " + to, link(site, to));
                }
            }
        }
    }

    static Map<String, String> of(Played board) {
        return new Parts(board).parts;
    }

    /** The names of the parts that are not the same in both, or only in one of them. */
    static Set<String> changed(Map<String, String> before, Map<String, String> after) {
        Set<String> names = new TreeSet<>(before.keySet());
        names.addAll(after.keySet());
        names.removeIf(name -> before.containsKey(name) && before.get(name).equals(after.get(name)));
        return names;
    }

    /** What the pen would draw, whatever the board and the clock are. */
    private String pen(int site) {
        Played board = asked.again();
        StringBuilder text = new StringBuilder().append(board.siteInfo(site, 4));
        int number = board.penUp(site);
        for (int place = 0; number > 0 && place < board.siteInfo(site, 3); place++) {
            if (board.stroke(site, place, 0) == site && board.stroke(site, place, 1) == number) {
                for (int what = 2; what <= 25; what++) {
                    text.append(' ').append(board.stroke(site, place, what));
                }
            }
        }
        return text.toString();
    }

    private String made(int author) {
        Played board = asked.again();
        StringBuilder text = new StringBuilder();
        for (int number = 1; number <= board.siteInfo(author, 2); number++) {
            for (int what = 0; what <= 5; what++) {
                text.append(board.operation(author, number, what)).append(' ');
            }
        }
        return text.toString();
    }

    private String known(int site, int sites) {
        Played board = asked.again();
        StringBuilder text = new StringBuilder();
        for (int author = 0; author < sites; author++) {
            for (int number = 1; number <= 20; number++) {
                if (board.knows(site, author, number) == 1) {
                    text.append(100 * author + number).append(' ');
                }
            }
        }
        return text.toString();
    }

    private String board(int site) {
        Played board = asked.again();
        StringBuilder text = new StringBuilder().append(board.digest(site));
        for (int place = 0; place < board.siteInfo(site, 3); place++) {
            for (int what = 0; what <= 2; what++) {
                text.append(' ').append(board.stroke(site, place, what));
            }
        }
        return text.toString();
    }

    private String link(int from, int to) {
        Played board = asked.again();
        StringBuilder text = new StringBuilder();
        int messages = board.waiting(from, to);
        for (int k = 0; k < messages; k++) {
            text.append(board.deliver(from, to)).append(' ');
        }
        return text.toString();
    }
}
