import java.util.function.Supplier;

/**
 * "A method that throws an exception or returns an error code leaves the state unchanged": makes
 * two equal grids, lets one refuse a call, and asks both for all that can be asked. A grid is
 * asked for no more than the 512 calls that the document allows.
 */
final class Refusal {
    interface Act {
        long on(GridEngine grid);
    }

    // Making a grid and filling its buffer takes less than 200 calls of the 512.
    private static final int MOST_CALLS = 512 - 200;

    /** What a grid has answered, and how often it was asked. */
    private static final class Trace {
        private final StringBuilder told = new StringBuilder();
        private final GridEngine grid;
        private int calls = 0;

        Trace(GridEngine grid) {
            this.grid = grid;
        }

        long ask(String name, Act act) {
            calls++;
            long answer = 0;
            String outcome;
            try {
                answer = act.on(grid);
                outcome = Long.toString(answer);
            } catch (RuntimeException thrown) {
                outcome = thrown.getClass().getSimpleName();
                answer = -1;
            }
            told.append(name).append(' ').append(outcome).append('\n');
            return answer;
        }
    }

    private Refusal() {
    }

    static GridEngine richGrid() {
        return richGrid("12");
    }

    /** A grid with something in each part of its state, and more changes than can be undone. */
    static GridEngine richGrid(String buffer) {
        GridEngine grid = Check.grid("10 1fr? auto", "20 7?");
        Check.feed(grid, "fit(9)?");
        grid.readImplicit(0);
        grid.set(0, 0, 90);
        grid.set(0, 1, 3);
        grid.set(1, 2, 5);
        grid.save(0);
        grid.addItem(5, 8, 6, 9);
        grid.addItem(2, 40, 11, 30);
        grid.place(0, 0, 2, 2);
        grid.save(2);
        grid.align(1, 1, 3);
        grid.setFlow(1, true);
        Check.feed(grid, buffer);
        return grid;
    }

    /** Twelve items, one over the other, and nothing else. */
    static GridEngine fullGrid() {
        GridEngine grid = new GridEngine();
        for (int item = 0; item < 12; item++) {
            grid.addItem(item, 20 + item, 0, 5);
        }
        return grid;
    }

    /** The rich grid has to throw just this exception, and to stay as it is. */
    static void thrown(String what, Class<? extends RuntimeException> want, Act act) {
        thrown(what, want, Refusal::richGrid, act);
    }

    static void thrown(String what, Class<? extends RuntimeException> want,
            Supplier<GridEngine> maker, Act act) {
        leaves(what, want.getSimpleName(), maker, maker, act);
    }

    /** The grid has to answer, or throw, what is due, and then to be as the other one. */
    static void leaves(String what, String want, Supplier<GridEngine> maker,
            Supplier<GridEngine> other, Act act) {
        for (boolean isOfPast : new boolean[] {false, true}) {
            Trace refused = new Trace(maker.get());
            refused.ask("call", act);
            String got = refused.told.substring("call ".length()).trim();
            Check.same(what, want, got);
            refused.told.setLength(0);
            Trace untouched = new Trace(other.get());
            follow(refused, isOfPast);
            follow(untouched, isOfPast);
            sameLines(what + ", the state behind it", untouched, refused);
            Check.due(what + ": not too many calls", true, refused.calls <= MOST_CALLS);
        }
    }

    /** Both grids have to answer the same now, and also behind undo and restore. */
    static void sameState(String what, Supplier<GridEngine> maker, Supplier<GridEngine> other) {
        samePresent(what, maker, other);
        compare(what, maker, other, true);
    }

    /** Both grids have to answer the same now, though they may have another past. */
    static void samePresent(String what, Supplier<GridEngine> maker, Supplier<GridEngine> other) {
        compare(what, maker, other, false);
    }

    private static void compare(String what, Supplier<GridEngine> maker,
            Supplier<GridEngine> other, boolean isOfPast) {
        Trace one = new Trace(maker.get());
        Trace two = new Trace(other.get());
        follow(one, isOfPast);
        follow(two, isOfPast);
        sameLines(what, two, one);
    }

    /** Compares answer by answer, so that just the first one that differs is told. */
    private static void sameLines(String what, Trace want, Trace got) {
        String[] due = want.told.toString().split("\n");
        String[] answered = got.told.toString().split("\n");
        int at = 0;
        while (at < due.length - 1 && at < answered.length - 1 && due[at].equals(answered[at])) {
            at++;
        }
        Check.same(what + ", answer " + at, due[at], answered[at]);
    }

    private static void follow(Trace trace, boolean isOfPast) {
        if (isOfPast) {
            tellBufferAndPast(trace);
        } else {
            tellAnswers(trace);
            tellFields(trace);
        }
    }

    private static void tellAnswers(Trace trace) {
        trace.ask("items", grid -> grid.items());
        for (int axis = 0; axis < 2; axis++) {
            int a = axis;
            int tracks = (int) trace.ask("tracks", grid -> grid.tracks(a));
            for (int track = 1; track <= Math.min(tracks, 5); track++) {
                int t = track;
                for (int part = 0; part < 5; part++) {
                    int p = part;
                    trace.ask("definition", grid -> grid.definition(a, t, p));
                }
                trace.ask("size", grid -> grid.size(a, t, 5));
                trace.ask("position", grid -> grid.position(a, t));
            }
            trace.ask("free", grid -> grid.free(a));
            trace.ask("unmet", grid -> grid.unmet(a, true));
        }
        trace.ask("cells", grid -> grid.cells(1));
        for (int cell = 0; cell < 9; cell++) {
            int column = 1 + cell / 3;
            int row = 1 + cell % 3;
            trace.ask("itemIn", grid -> grid.itemIn(column, row));
        }
        for (int x = 0; x <= 18; x += 6) {
            int point = x;
            trace.ask("itemUnder", grid -> grid.itemUnder(point, 0));
        }
    }

    /** Asks for settings and items by the previous values that changes answer. */
    private static void tellFields(Trace trace) {
        trace.ask("flow", grid -> grid.setFlow(0, false));
        int items = (int) trace.ask("items", grid -> grid.items());
        for (int axis = 0; axis < 2; axis++) {
            int a = axis;
            for (int setting = 0; setting < 3; setting++) {
                int s = setting;
                trace.ask("setting", grid -> grid.set(a, s, 0));
            }
            for (int item = 0; item < items; item++) {
                int i = item;
                trace.ask("startOf", grid -> grid.startOf(i, a));
                trace.ask("place", grid -> grid.place(i, a, 1, 1));
                trace.ask("alignment", grid -> grid.align(i, a, 0));
                trace.ask("small", grid -> grid.contribute(i, a, false, 0));
                trace.ask("large", grid -> grid.contribute(i, a, true, 999));
            }
            trace.ask("place far behind", grid -> grid.place(0, a, 12, 4));
            for (int part = 0; part < 5; part++) {
                int p = part;
                trace.ask("implicit", grid -> grid.definition(a, 15, p));
            }
        }
    }

    private static void tellBufferAndPast(Trace trace) {
        trace.ask("feed", grid -> grid.feed('3'));
        for (int turn = 0; turn < 9; turn++) {
            trace.ask("undo", grid -> grid.undo());
        }
        tellAnswers(trace);
        for (int slot = 0; slot < 3; slot++) {
            int s = slot;
            trace.ask("restore", grid -> grid.restore(s));
            trace.ask("total", grid -> grid.total(0, 5));
        }
        trace.ask("readTracks", grid -> grid.readTracks(1));
        trace.ask("what the buffer held", grid -> grid.definition(1, 1, 1));
    }
}
