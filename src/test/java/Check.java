/** What the tests of the promises share: calls, the answers that are due, and a count of faults. */
final class Check {
    interface Call {
        long answer();
    }

    private static int made = 0;
    private static int wrong = 0;

    private Check() {
    }

    static void due(String what, long want, Call call) {
        String got;
        try {
            got = Long.toString(call.answer());
        } catch (RuntimeException thrown) {
            got = thrown.getClass().getSimpleName();
        }
        compare(what, Long.toString(want), got);
    }

    static void due(String what, boolean want, boolean got) {
        compare(what, Boolean.toString(want), Boolean.toString(got));
    }

    /** The call has to throw an exception of just this class. */
    static void thrown(String what, Class<? extends RuntimeException> want, Call call) {
        String got;
        try {
            got = Long.toString(call.answer());
        } catch (RuntimeException thrown) {
            got = thrown.getClass().getSimpleName();
        }
        compare(what, want.getSimpleName(), got);
    }

    static void same(String what, String want, String got) {
        compare(what, want, got);
    }

    private static void compare(String what, String want, String got) {
        made++;
        if (!want.equals(got)) {
            wrong++;
            System.out.println(what + ": due is " + want + ", answered was " + got);
        }
    }

    static void feed(GridEngine grid, String text) {
        for (int i = 0; i < text.length(); i++) {
            grid.feed(text.charAt(i));
        }
    }

    /** A new grid with explicit tracks on both axes. */
    static GridEngine grid(String columns, String rows) {
        GridEngine grid = new GridEngine();
        feed(grid, columns);
        grid.readTracks(0);
        feed(grid, rows);
        grid.readTracks(1);
        return grid;
    }

    static void sizes(String what, GridEngine grid, int axis, int stage, int... want) {
        due(what + ": tracks", want.length, () -> grid.tracks(axis));
        for (int i = 0; i < want.length; i++) {
            int track = i + 1;
            due(what + ": size " + track + " in stage " + stage, want[i],
                () -> grid.size(axis, track, stage));
        }
    }

    static void positions(String what, GridEngine grid, int axis, int... want) {
        for (int i = 0; i < want.length; i++) {
            int track = i + 1;
            due(what + ": position " + track, want[i], () -> grid.position(axis, track));
        }
    }

    /** The item covers a column and a row first. */
    static void at(String what, GridEngine grid, int item, int column, int row) {
        due(what + ": column of " + item, column, () -> grid.startOf(item, 0));
        due(what + ": row of " + item, row, () -> grid.startOf(item, 1));
    }

    static void finish(String name) {
        System.out.println(name + ": checks " + made + ", wrong " + wrong);
        if (wrong > 0) {
            System.exit(1);
        }
    }
}
