/** Tests that many sentences of the document need: an argument's range, and a refused call. */
final class Edges {
    interface Start {
        Played make();
    }

    interface Call {
        int on(Played board);
    }

    interface CallWith {
        int on(Played board, int value);
    }

    private Edges() {
    }

    /**
     * The least and the greatest value of an argument are taken, with the answers that are due. The
     * values just outside and the ends of the machine's integers are refused and change nothing.
     */
    static void range(Checks checks, String name, Start start, CallWith call,
            int least, int dueLeast, int most, int dueMost) {
        checks.test(name, due -> {
            due.is("the least one, " + least + ",", call.on(start.make(), least), dueLeast);
            due.is("the greatest one, " + most + ",", call.on(start.make(), most), dueMost);
            refusesOutside(due, start, call, least, most);
        });
    }

    private static void refusesOutside(Checks due, Start start, CallWith call, int least, int most) {
        long[] values = {least - 1L, most + 1L, Integer.MIN_VALUE, Integer.MAX_VALUE};
        Played board = start.make();
        due.unchanged("values outside", board, () -> {
            for (long value : values) {
                boolean isOutside = value < least || value > most;
                if (isOutside && value == (int) value) {
                    due.is("the value " + value, call.on(board, (int) value), Checks.INVALID);
                }
            }
        });
    }

    /** The call is refused with this error, and again, and changes nothing. */
    static void refused(Checks checks, String name, Start start, Call call, int error) {
        checks.test(name, due -> {
            Played board = start.make();
            due.unchanged("the refused call", board, () -> {
                due.is("the refused call", call.on(board), error);
                due.is("the refused call again", call.on(board), error);
            });
        });
    }

    /** Two numbers of one site are refused where the document asks for another site. */
    static void refusesSame(Checks checks, String name, CallWith call) {
        checks.test(name, due -> {
            Played board = Draw.busy();
            due.unchanged("twice the same site", board, () -> {
                for (int site = 0; site < 3; site++) {
                    due.is("twice site " + site, call.on(board, site), Checks.INVALID);
                }
            });
        });
    }
}
