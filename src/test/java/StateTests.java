/** Promises 27 to 29, and the number of items: states that are saved, restored, taken back. */
public final class StateTests {
    private static final Class<IllegalStateException> STATE = IllegalStateException.class;
    private static final Class<IndexOutOfBoundsException> MISSING =
        IndexOutOfBoundsException.class;

    public static void main(String[] args) {
        items();
        save();
        restoreAll();
        undoEachChange();
        undoDepth();
        answersFollowTheState();
        noChanges();
        Check.finish("StateTests");
    }

    private static void items() {
        GridEngine grid = new GridEngine();
        Check.due("none", 0, () -> grid.items());
        grid.addItem(1, 2, 3, 4);
        grid.addItem(1, 2, 3, 4);
        Check.due("two", 2, () -> grid.items());
        grid.removeItem(0);
        Check.due("one", 1, () -> grid.items());
        grid.undo();
        Check.due("two again", 2, () -> grid.items());
    }

    private static void save() {
        GridEngine grid = new GridEngine();
        Check.thrown("slot -1", MISSING, () -> grid.save(-1));
        Check.thrown("slot 3", MISSING, () -> grid.save(3));
        Check.due("save", 0, () -> grid.save(0));
        grid.addItem(1, 2, 3, 4);
        Check.due("another slot", 1, () -> grid.save(2));
        Check.thrown("slot -1 of restore", MISSING, () -> grid.restore(-1));
        Check.thrown("slot 3 of restore", MISSING, () -> grid.restore(3));
        Check.thrown("a slot that holds nothing", STATE, () -> grid.restore(1));
        Check.due("restore", 0, () -> grid.restore(0));
        Check.due("restore of the other", 1, () -> grid.restore(2));
        Check.due("the slot still holds it", 0, () -> grid.restore(0));
        grid.addItem(1, 2, 3, 4);
        grid.addItem(1, 2, 3, 4);
        Check.due("in place of what it held", 2, () -> grid.save(2));
        grid.removeItem(0);
        Check.due("the new one", 2, () -> grid.restore(2));
    }

    private static GridEngine full() {
        GridEngine grid = Check.grid("10 20", "30");
        Check.feed(grid, "40");
        grid.readImplicit(0);
        grid.set(0, 0, 200);
        grid.set(1, 1, 5);
        grid.set(0, 2, 3);
        grid.setFlow(1, true);
        grid.addItem(1, 2, 3, 4);
        grid.addItem(5, 6, 7, 8);
        grid.place(0, 0, 3, 2);
        grid.place(1, 1, 4, 1);
        grid.align(1, 0, 2);
        return grid;
    }

    /** Puts everything else than full() into a grid. */
    private static void changeAll(GridEngine grid) {
        grid.readTracks(0);
        Check.feed(grid, "1fr 2fr 3fr");
        grid.readTracks(1);
        Check.feed(grid, "50?");
        grid.readImplicit(0);
        for (int axis = 0; axis < 2; axis++) {
            grid.set(axis, 0, 77);
            grid.set(axis, 1, 9);
            grid.set(axis, 2, 6);
        }
        grid.setFlow(0, false);
        grid.addItem(9, 9, 9, 9);
        for (int item = 0; item < 3; item++) {
            grid.place(item, 0, 7, 3);
            grid.place(item, 1, 8, 2);
            grid.align(item, 0, 1);
            grid.align(item, 1, 3);
            grid.contribute(item, 0, true, 99);
            grid.contribute(item, 1, true, 98);
        }
    }

    private static void dueAsFull(String what, GridEngine grid) {
        GridEngine same = full();
        Check.due(what + ": items", 2, () -> grid.items());
        for (int axis = 0; axis < 2; axis++) {
            int a = axis;
            Check.due(what + ": tracks", same.tracks(a), () -> grid.tracks(a));
            for (int track = 1; track <= same.tracks(a); track++) {
                int t = track;
                for (int part = 0; part < 5; part++) {
                    int p = part;
                    Check.due(what + ": definition", same.definition(a, t, p),
                        () -> grid.definition(a, t, p));
                }
                Check.due(what + ": size", same.size(a, t, 5), () -> grid.size(a, t, 5));
                Check.due(what + ": position", same.position(a, t), () -> grid.position(a, t));
            }
            for (int item = 0; item < 2; item++) {
                int i = item;
                Check.due(what + ": start", same.startOf(i, a), () -> grid.startOf(i, a));
                Check.due(what + ": box", same.box(i, a, 0), () -> grid.box(i, a, 0));
                Check.due(what + ": box size", same.box(i, a, 1), () -> grid.box(i, a, 1));
            }
        }
        GridEngine again = grid;
        Check.due(what + ": flow", 3, () -> again.setFlow(1, true));
        Check.due(what + ": alignment", 2, () -> again.align(1, 0, 2));
        Check.due(what + ": place", 32, () -> again.place(0, 0, 3, 2));
    }

    private static void restoreAll() {
        GridEngine grid = full();
        grid.save(1);
        changeAll(grid);
        Check.feed(grid, "12");
        Check.due("restore", 2, () -> grid.restore(1));
        dueAsFull("restored", grid);
        Check.due("the buffer has stayed", 3, () -> grid.feed('3'));
        grid.save(0);
        Check.due("and stays", 4, () -> grid.feed(' '));
        changeAll(grid);
        grid.restore(0);
        dueAsFull("restored from another slot", grid);
        changeAll(grid);
        grid.save(2);
        grid.restore(1);
        Check.due("undo of restore", 7, () -> grid.undo());
        Check.due("as ahead of it", 3, () -> grid.items());
    }

    private interface Change {
        long make(GridEngine grid);
    }

    private static void undoEachChange() {
        Change[] changes = {
            grid -> grid.readTracks(0),
            grid -> grid.readTracks(1),
            grid -> grid.feed('7') + grid.readImplicit(0),
            grid -> grid.set(0, 0, 90),
            grid -> grid.set(1, 1, 50),
            grid -> grid.set(0, 2, 1),
            grid -> grid.setFlow(0, false),
            grid -> grid.addItem(9, 9, 9, 9),
            grid -> grid.place(0, 0, 1, 1),
            grid -> grid.align(1, 0, 0),
            grid -> grid.contribute(0, 1, true, 300),
            grid -> grid.removeItem(0),
            grid -> grid.exchange(0, 1),
            grid -> grid.restore(2),
        };
        for (int change = 0; change < changes.length; change++) {
            GridEngine grid = full();
            grid.save(0);
            changeAll(grid);
            grid.save(2);
            grid.restore(0);
            changes[change].make(grid);
            Check.due("undo of change " + change, 7, () -> grid.undo());
            dueAsFull("after undo of change " + change, grid);
        }
        GridEngine same = full();
        same.exchange(1, 1);
        same.set(0, 1, 0);
        Check.due("nothing different is a change too", 7, () -> same.undo());
        Check.due("both", 6, () -> same.undo());
        dueAsFull("after both", same);
    }

    private static void undoDepth() {
        GridEngine grid = new GridEngine();
        for (int size = 1; size <= 10; size++) {
            grid.set(0, 0, size);
        }
        for (int left = 7; left >= 0; left--) {
            int l = left;
            Check.due("undo", l, () -> grid.undo());
        }
        Check.thrown("older ones are forgotten", STATE, () -> grid.undo());
        Check.due("8 changes taken back", 2, () -> grid.set(0, 0, 50));
        grid.set(0, 0, 60);
        Check.due("one of two", 1, () -> grid.undo());
        grid.set(0, 0, 70);
        Check.due("a change after an undo", 1, () -> grid.undo());
        Check.due("the first one", 0, () -> grid.undo());
        Check.thrown("no more", STATE, () -> grid.undo());
        Check.due("as ahead of both", 2, () -> grid.set(0, 0, 80));
    }

    private static void refusedCalls(GridEngine grid) {
        Check.thrown("set", IllegalArgumentException.class, () -> grid.set(0, 1, 100));
        Check.thrown("setFlow", IllegalArgumentException.class, () -> grid.setFlow(5, true));
        Check.thrown("addItem", IllegalArgumentException.class, () -> grid.addItem(2, 1, 0, 0));
        Check.thrown("place", MISSING, () -> grid.place(5, 0, 1, 1));
        Check.thrown("align", MISSING, () -> grid.align(5, 0, 1));
        Check.thrown("contribute", MISSING, () -> grid.contribute(5, 0, true, 1));
        Check.thrown("removeItem", MISSING, () -> grid.removeItem(5));
        Check.thrown("exchange", MISSING, () -> grid.exchange(0, 5));
        Check.thrown("restore", STATE, () -> grid.restore(1));
    }

    private static void answersFollowTheState() {
        GridEngine grid = Check.grid("", "");
        grid.addItem(10, 20, 5, 5);
        grid.save(0);
        Check.sizes("at first", grid, 0, 5, 20);
        grid.contribute(0, 0, true, 30);
        Check.sizes("changed", grid, 0, 5, 30);
        grid.undo();
        Check.sizes("taken back", grid, 0, 5, 20);
        grid.contribute(0, 0, true, 40);
        Check.sizes("changed again", grid, 0, 5, 40);
        grid.restore(0);
        Check.sizes("restored", grid, 0, 5, 20);
    }

    private static void noChanges() {
        GridEngine grid = new GridEngine();
        grid.addItem(1, 2, 3, 4);
        refusedCalls(grid);
        grid.feed('x');
        Check.due("a wrong text", -100, () -> grid.readTracks(0));
        grid.feed('x');
        Check.due("a wrong implicit text", -100, () -> grid.readImplicit(0));
        Check.due("no implicit track", 0, () -> grid.readImplicit(0));
        grid.save(0);
        grid.feed('5');
        grid.size(0, 1, 5);
        Check.due("only the item is a change", 0, () -> grid.undo());
        Check.due("the slot stays", 1, () -> grid.restore(0));
        Check.due("the buffer stays", 2, () -> grid.feed('6'));
    }
}
