import java.math.BigInteger;

/** The section "What a site shows": each sentence that names a boundary. */
final class ShowEdges {
    private static final String SHOWS = "section 'What a site shows': ";

    private ShowEdges() {
    }

    static void all(Checks checks) {
        visible(checks);
        lastOfUndoAndRedo(checks);
        layers(checks);
        lastLift(checks);
        beforeStroke(checks);
        beforeStrokeLift(checks);
        order(checks);
        digestValues(checks);
        digestOverflow(checks);
        emptyBoard(checks);
    }

    /** Site 0 has made operation 1, a STROKE in layer 1, and after it an UNDO and a REDO. */
    private static Played undoneAndRedone() {
        Played board = Draw.withSites(3);
        Draw.dot(board, 0, 5, 5, 5, 1);
        board.undo(0);
        board.redo(0);
        return board;
    }

    private static void numbersAre(Checks due, Played board, int site, int... want) {
        due.is("strokes of " + site, board.siteInfo(site, 3), want.length);
        for (int place = 0; place < want.length; place++) {
            due.is("stroke " + place + " of " + site,
                    100 * board.stroke(site, place, 0) + board.stroke(site, place, 1), want[place]);
        }
    }

    private static void visible(Checks checks) {
        checks.test(SHOWS + "a stroke without UNDO, REDO or LIFT is visible in its own layer", due -> {
            Played board = new Played();
            Draw.dots(board, 0, 4);
            numbersAre(due, board, 0, 1, 2, 3, 4);
            for (int layer = 0; layer <= 3; layer++) {
                due.is("layer", board.stroke(0, layer, 2), layer);
            }
        });
        checks.test(SHOWS + "a stroke without UNDO but with a REDO is visible", due -> {
            Played board = undoneAndRedone();
            Draw.deliverOnly(board, 0, 1, 1, 3);
            due.is("known", board.siteInfo(1, 1), 2);
            numbersAre(due, board, 1, 1);
        });
        checks.test(SHOWS + "a stroke with an UNDO is not visible", due -> {
            Played board = undoneAndRedone();
            Draw.deliverOnly(board, 0, 1, 1, 2);
            numbersAre(due, board, 1);
        });
        checks.test(SHOWS + "a stroke that is not known is not visible", due -> {
            Played board = undoneAndRedone();
            numbersAre(due, board, 1);
            numbersAre(due, board, 0, 1);
        });
        checks.test(SHOWS + "an UNDO is for its own stroke alone", due -> {
            Played board = new Played();
            Draw.dots(board, 0, 2);
            Draw.dots(board, 1, 2);
            board.deliverAll();
            board.undo(0);
            numbersAre(due, board, 0, 1, 101, 102);
        });
    }

    private static void lastOfUndoAndRedo(Checks checks) {
        checks.test(SHOWS + "UNDO, then REDO: visible", due -> {
            Played board = undoneAndRedone();
            numbersAre(due, board, 0, 1);
        });
        checks.test(SHOWS + "UNDO, REDO, then UNDO: not visible", due -> {
            Played board = undoneAndRedone();
            board.undo(0);
            numbersAre(due, board, 0);
        });
        checks.test(SHOWS + "the REDO is the last one in the total order, the UNDO comes last", due -> {
            Played board = undoneAndRedone();
            Draw.deliverOnly(board, 0, 1, 1, 3);
            due.is("the UNDO comes by repair", board.repair(1, 0), 1);
            numbersAre(due, board, 1, 1);
        });
        checks.test(SHOWS + "the UNDO is the last one in the total order, the REDO comes last", due -> {
            Played board = undoneAndRedone();
            board.undo(0);
            Draw.deliverOnly(board, 0, 1, 1, 2, 4);
            due.is("the REDO comes by repair", board.repair(1, 0), 1);
            numbersAre(due, board, 1);
        });
        checks.test(SHOWS + "of two UNDOs known without the REDO between them the stroke is not visible", due -> {
            Played board = undoneAndRedone();
            board.undo(0);
            Draw.deliverOnly(board, 0, 1, 1, 2, 4);
            numbersAre(due, board, 1);
        });
        checks.test(SHOWS + "of UNDO, UNDO and REDO the REDO counts, without the REDO between them", due -> {
            Played board = undoneAndRedone();
            board.undo(0);
            board.redo(0);
            Draw.deliverOnly(board, 0, 1, 1, 2, 4, 5);
            due.is("known", board.siteInfo(1, 1), 4);
            numbersAre(due, board, 1, 1);
        });
        checks.test(SHOWS + "of REDO, REDO and UNDO the UNDO counts, without the UNDOs before them", due -> {
            Played board = undoneAndRedone();
            board.undo(0);
            board.redo(0);
            board.undo(0);
            Draw.deliverOnly(board, 0, 1, 1, 3, 5, 6);
            due.is("known", board.siteInfo(1, 1), 4);
            numbersAre(due, board, 1);
        });
        checks.test(SHOWS + "only what the site knows counts", due -> {
            Played board = undoneAndRedone();
            board.deliver(0, 1);
            board.deliver(0, 1);
            board.deliver(0, 2);
            numbersAre(due, board, 0, 1);
            numbersAre(due, board, 1);
            numbersAre(due, board, 2, 1);
        });
    }

    private static void layers(Checks checks) {
        checks.test(SHOWS + "a LIFT to the least and to the greatest layer", due -> {
            Played board = new Played();
            Draw.dot(board, 0, 1, 1, 1, 2);
            board.lift(0, 0, 0);
            due.is("layer 0", board.stroke(0, 0, 2), 0);
            board.lift(0, 0, 3);
            due.is("layer 3", board.stroke(0, 0, 2), 3);
        });
        checks.test(SHOWS + "a LIFT back to the own layer", due -> {
            Played board = new Played();
            Draw.dot(board, 0, 1, 1, 1, 2);
            board.lift(0, 0, 3);
            board.lift(0, 0, 2);
            due.is("layer", board.stroke(0, 0, 2), 2);
        });
        checks.test(SHOWS + "a LIFT is for its own stroke alone", due -> {
            Played board = new Played();
            Draw.dot(board, 0, 1, 1, 1, 1);
            Draw.dot(board, 0, 1, 1, 1, 1);
            board.lift(0, 0, 3);
            numbersAre(due, board, 0, 2, 1);
            due.is("the other one's layer", board.stroke(0, 0, 2), 1);
        });
        checks.test(SHOWS + "UNDO and REDO leave the layer of a LIFT", due -> {
            Played board = new Played();
            Draw.dot(board, 0, 1, 1, 1, 1);
            board.lift(0, 0, 3);
            board.undo(0);
            board.redo(0);
            due.is("layer", board.stroke(0, 0, 2), 3);
        });
        checks.test(SHOWS + "a LIFT shows no undone stroke, but holds when it is redone", due -> {
            Played board = new Played();
            Draw.dot(board, 0, 1, 1, 1, 1);
            board.deliver(0, 1);
            board.undo(0);
            board.lift(1, 0, 3);
            board.deliverAll();
            numbersAre(due, board, 0);
            numbersAre(due, board, 1);
            board.redo(0);
            due.is("layer", board.stroke(0, 0, 2), 3);
        });
    }

    private static void lastLift(Checks checks) {
        checks.test(SHOWS + "the LIFT that is the last in the total order, another one comes last", due -> {
            Played board = new Played();
            Draw.dot(board, 0, 1, 1, 1, 0);
            board.lift(0, 0, 1);
            board.lift(0, 0, 3);
            Draw.deliverOnly(board, 0, 1, 1, 3);
            due.is("layer", board.stroke(1, 0, 2), 3);
            due.is("the first LIFT comes by repair", board.repair(1, 0), 1);
            due.is("layer", board.stroke(1, 0, 2), 3);
        });
        checks.test(SHOWS + "of LIFTs with equal times the greater author's, in whatever order they come", due -> {
            Played board = Draw.withSites(4);
            Draw.dot(board, 0, 1, 1, 1, 0);
            board.deliverAll();
            board.lift(1, 0, 1);
            board.lift(2, 0, 2);
            board.deliver(1, 0);
            board.deliver(2, 0);
            due.is("1's, then 2's", board.stroke(0, 0, 2), 2);
            board.deliver(2, 3);
            board.deliver(1, 3);
            due.is("2's, then 1's", board.stroke(3, 0, 2), 2);
        });
        checks.test(SHOWS + "a LIFT of a later time by a smaller author", due -> {
            Played board = Draw.withSites(3);
            Draw.dot(board, 2, 1, 1, 1, 0);
            board.lift(2, 0, 2);
            board.deliverAll();
            board.lift(0, 0, 1);
            board.deliverAll();
            for (int site = 0; site < 3; site++) {
                due.is("layer for " + site, board.stroke(site, 0, 2), 1);
            }
        });
    }

    private static void beforeStroke(Checks checks) {
        checks.test(SHOWS + "an UNDO known before its stroke has no effect, then it has", due -> {
            Played board = undoneAndRedone();
            Draw.deliverOnly(board, 0, 1, 2);
            due.is("known", board.siteInfo(1, 1), 1);
            numbersAre(due, board, 1);
            due.is("digest", board.digest(1), 17);
            due.is("the stroke comes", board.repair(1, 0), 1);
            due.is("known", board.siteInfo(1, 1), 2);
            numbersAre(due, board, 1);
        });
        checks.test(SHOWS + "a REDO known before its stroke has no effect, then the stroke is visible", due -> {
            Played board = undoneAndRedone();
            Draw.deliverOnly(board, 0, 1, 3);
            numbersAre(due, board, 1);
            due.is("strokeAt", board.strokeAt(1, 5, 5), Checks.MISSING);
            Draw.deliverOnly(board, 0, 2, 1);
            due.is("the stroke comes, not the UNDO", board.repair(1, 2), 1);
            numbersAre(due, board, 1, 1);
        });
        checks.test(SHOWS + "UNDO and REDO known before their stroke: the last one counts", due -> {
            Played board = undoneAndRedone();
            Draw.deliverOnly(board, 0, 1, 2, 3);
            numbersAre(due, board, 1);
            due.is("the stroke comes", board.repair(1, 0), 1);
            numbersAre(due, board, 1, 1);
        });
        checks.test(SHOWS + "operations for an unknown stroke leave the other strokes", due -> {
            Played board = new Played();
            Draw.dot(board, 1, 1, 1, 1, 1);
            Draw.dot(board, 0, 5, 5, 5, 1);
            board.lift(0, 0, 3);
            board.undo(0);
            int digest = board.digest(1);
            Draw.deliverOnly(board, 0, 1, 2, 3);
            due.is("known", board.siteInfo(1, 1), 3);
            due.is("digest", board.digest(1), digest);
            numbersAre(due, board, 1, 101);
        });
    }

    private static void beforeStrokeLift(Checks checks) {
        checks.test(SHOWS + "a LIFT known before its stroke has no effect, then it has", due -> {
            Played board = new Played();
            Draw.dot(board, 0, 1, 1, 1, 1);
            board.lift(0, 0, 3);
            Draw.deliverOnly(board, 0, 1, 2);
            numbersAre(due, board, 1);
            due.is("the stroke comes", board.repair(1, 0), 1);
            numbersAre(due, board, 1, 1);
            due.is("layer", board.stroke(1, 0, 2), 3);
        });
        checks.test(SHOWS + "another author's LIFT known before its stroke", due -> {
            Played board = Draw.withSites(3);
            Draw.dot(board, 0, 1, 1, 1, 1);
            board.deliver(0, 1);
            board.lift(1, 0, 0);
            board.deliver(1, 2);
            numbersAre(due, board, 2);
            board.deliver(0, 2);
            numbersAre(due, board, 2, 1);
            due.is("layer", board.stroke(2, 0, 2), 0);
        });
    }

    private static void order(Checks checks) {
        checks.test(SHOWS + "the board is ordered by layers, from 0 to 3", due -> {
            Played board = new Played();
            for (int layer = 3; layer >= 0; layer--) {
                Draw.dot(board, 0, 1, 1, 1, layer);
            }
            numbersAre(due, board, 0, 4, 3, 2, 1);
        });
        checks.test(SHOWS + "for equal layers by the order of the strokes, not of their LIFTs", due -> {
            Played board = new Played();
            Draw.dot(board, 0, 1, 1, 1, 0);
            Draw.dot(board, 0, 1, 1, 1, 0);
            Draw.dot(board, 0, 1, 1, 1, 3);
            board.lift(0, 1, 3);
            board.lift(0, 0, 3);
            numbersAre(due, board, 0, 1, 2, 3);
        });
        checks.test(SHOWS + "for equal layers a redone stroke has its old place", due -> {
            Played board = new Played();
            for (int k = 0; k < 3; k++) {
                Draw.dot(board, 0, 1, 1, 1, 2);
            }
            board.undo(0);
            board.undo(0);
            board.redo(0);
            board.redo(0);
            numbersAre(due, board, 0, 1, 2, 3);
        });
        checks.test(SHOWS + "the order in which strokes come does not count", due -> {
            Played board = new Played();
            for (int k = 0; k < 3; k++) {
                Draw.dot(board, 0, 1, 1, 1, 2);
            }
            Draw.deliverOnly(board, 0, 1, 3);
            board.repair(1, 0);
            numbersAre(due, board, 1, 1, 2, 3);
        });
        checks.test(SHOWS + "a board of 100 strokes is ordered by layers, then by times", due -> {
            Played board = Draw.full();
            for (int place = 0; place < 100; place++) {
                int time = 4 * (place % 25) + place / 25 + 1;
                due.is("number " + place, board.stroke(4, place, 1), (time - 1) % 20 + 1);
                due.is("author " + place, board.stroke(4, place, 0), (time - 1) / 20);
            }
        });
    }

    /** The digest of these values: whole numbers of any size first, 32 bits of them at the end. */
    private static int hash(int... values) {
        BigInteger h = BigInteger.valueOf(17);
        for (int value : values) {
            h = h.multiply(BigInteger.valueOf(31)).add(BigInteger.valueOf(value));
        }
        return h.intValue();
    }

    private static void digestValues(Checks checks) {
        checks.test(SHOWS + "the digest of an empty board is 17", due ->
                due.is("digest(0)", new Played().digest(0), 17));
        checks.test(SHOWS + "the digest takes author, number, layer, color, x and y", due -> {
            Played board = Draw.withSites(5);
            Draw.dot(board, 3, 9, 9, 1, 0);
            board.undo(3);
            Draw.dot(board, 3, 40, 50, 6, 2);
            due.is("digest(3)", board.digest(3), hash(3, 3, 2, 6, 40, 50));
        });
        checks.test(SHOWS + "the digest takes the places of the points, not their distances", due -> {
            Played board = new Played();
            board.penDown(0, 1, 2, 3, 1);
            board.penMove(0, 4, -5);
            board.penMove(0, -8, 8);
            board.penUp(0);
            due.is("digest(0)", board.digest(0), hash(0, 1, 1, 3, 1, 2, 5, -3, -3, 5));
        });
        checks.test(SHOWS + "the digest takes the layer that the site shows", due -> {
            Played board = new Played();
            Draw.dot(board, 0, 1, 2, 3, 1);
            board.deliver(0, 1);
            board.lift(0, 0, 3);
            due.is("with the LIFT", board.digest(0), hash(0, 1, 3, 3, 1, 2));
            due.is("without it", board.digest(1), hash(0, 1, 1, 3, 1, 2));
        });
        checks.test(SHOWS + "the digest takes the strokes in the order of the board", due -> {
            Played board = new Played();
            Draw.dot(board, 0, 1, 2, 3, 2);
            Draw.dot(board, 0, 4, 5, 6, 0);
            due.is("digest(0)", board.digest(0), hash(0, 2, 0, 6, 4, 5, 0, 1, 2, 3, 1, 2));
        });
        checks.test(SHOWS + "the digest takes visible strokes alone", due -> {
            Played board = new Played();
            Draw.dot(board, 0, 1, 2, 3, 2);
            Draw.dot(board, 0, 4, 5, 6, 0);
            board.undo(0);
            due.is("digest(0)", board.digest(0), hash(0, 1, 2, 3, 1, 2));
        });
    }

    private static void digestOverflow(Checks checks) {
        checks.test(SHOWS + "the digest overflows 32 bits, to a negative one", due -> {
            Played board = new Played();
            Draw.dot(board, 0, 0, 0, 0, 0);
            // 17 * 31^6 + 31^4 (for the number, 1) is 15,088,486,098; less 4 * 2^32.
            due.is("digest(0)", board.digest(0), -2091383086);
            due.is("the same by the hash", hash(0, 1, 0, 0, 0, 0), -2091383086);
        });
        checks.test(SHOWS + "the digest overflows 32 bits, to a positive one", due -> {
            Played board = new Played();
            board.penDown(0, 5, 5, 1, 0);
            board.penMove(0, 1, 0);
            board.penMove(0, 8, -8);
            board.penMove(0, 3, -4);
            board.penUp(0);
            due.is("digest(0)", board.digest(0), 441153065);
            due.is("the same by the hash", hash(0, 1, 0, 1, 5, 5, 6, 5, 14, -3, 17, -7), 441153065);
        });
        checks.test(SHOWS + "the digest of 100 strokes overflows again and again", due -> {
            Played board = Draw.full();
            int[] values = new int[600];
            for (int place = 0; place < 100; place++) {
                int time = 4 * (place % 25) + place / 25 + 1;
                int k = (time - 1) % 20;
                int[] of = {(time - 1) / 20, k + 1, k % 4, k % 8, k, k};
                System.arraycopy(of, 0, values, 6 * place, 6);
            }
            due.is("digest(4)", board.digest(4), hash(values));
        });
    }

    private static void emptyBoard(Checks checks) {
        checks.test(SHOWS + "an empty board of a site that knows nothing", due ->
                isEmpty(due, Draw.withSites(2), 1));
        checks.test(SHOWS + "an empty board of a site whose stroke is undone", due ->
                isEmpty(due, Draw.twentyUndone(), 0));
        checks.test(SHOWS + "an empty board of a site that knows operations but not their stroke", due -> {
            Played board = undoneAndRedone();
            Draw.deliverOnly(board, 0, 1, 2, 3);
            isEmpty(due, board, 1);
        });
    }

    private static void isEmpty(Checks due, Played board, int site) {
        due.is("strokes", board.siteInfo(site, 3), 0);
        due.is("digest", board.digest(site), 17);
        due.is("stroke", board.stroke(site, 0, 0), Checks.MISSING);
        due.is("strokeAt", board.strokeAt(site, 5, 5), Checks.MISSING);
        due.is("lift", board.lift(site, 0, 0), Checks.IMPOSSIBLE);
        due.is("undo", board.undo(site), Checks.IMPOSSIBLE);
        due.is("areSame", board.areSame(site, site), 1);
    }
}
