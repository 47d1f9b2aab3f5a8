import java.util.NoSuchElementException;

/** Promises 8 to 18: items, and where they are placed. */
public final class ItemTests {
    private static final Class<IllegalArgumentException> REFUSED = IllegalArgumentException.class;
    private static final Class<IndexOutOfBoundsException> MISSING =
        IndexOutOfBoundsException.class;

    public static void main(String[] args) {
        addItem();
        place();
        align();
        contribute();
        removeItem();
        exchange();
        tracks();
        cursorByRows();
        cursorByColumns();
        startsOnSideAxis();
        startsOnMainAxis();
        sideCount();
        startOfRefused();
        itemIn();
        cells();
        Check.finish("ItemTests");
    }

    private static GridEngine gridOf(int items) {
        GridEngine grid = new GridEngine();
        for (int item = 0; item < items; item++) {
            grid.addItem(item, 100 + item, item, 200 + item);
        }
        return grid;
    }

    private static void addItem() {
        GridEngine grid = new GridEngine();
        int[][] wrong = {{-1, 5, 5, 5}, {5, 1000, 5, 5}, {6, 5, 5, 5}, {5, 5, -1, 5},
            {5, 5, 5, 1000}, {5, 5, 6, 5}};
        for (int[] row : wrong) {
            Check.thrown("addItem", REFUSED, () -> grid.addItem(row[0], row[1], row[2], row[3]));
        }
        Check.due("the first", 0, () -> grid.addItem(0, 999, 999, 999));
        Check.sizes("width", grid, 0, 2, 999);
        Check.sizes("base width", grid, 0, 1, 0);
        Check.sizes("height", grid, 1, 1, 999);
        for (int item = 1; item < 12; item++) {
            int i = item;
            Check.due("the next", i, () -> grid.addItem(0, 0, 0, 0));
        }
        Check.thrown("wrong ahead of full", REFUSED, () -> grid.addItem(2, 1, 0, 0));
        Check.thrown("full", IllegalStateException.class, () -> grid.addItem(0, 0, 0, 0));
        Check.due("items", 12, () -> grid.items());
    }

    private static void place() {
        GridEngine grid = gridOf(1);
        Check.due("at first", 1, () -> grid.place(0, 0, 12, 4));
        Check.due("start and span", 124, () -> grid.place(0, 0, GridEngine.NONE, 3));
        Check.due("the other axis", 1, () -> grid.place(0, 1, 1, 1));
        Check.thrown("no item -1", MISSING, () -> grid.place(-1, 5, 0, 0));
        Check.thrown("no item 1", MISSING, () -> grid.place(1, 0, 1, 1));
        int[][] wrong = {{2, 1, 1}, {-1, 1, 1}, {0, 0, 1}, {0, 13, 1}, {0, -2, 1}, {0, 1, 0},
            {0, 1, 5}, {0, GridEngine.NONE, 5}};
        for (int[] row : wrong) {
            Check.thrown("place", REFUSED, () -> grid.place(0, row[0], row[1], row[2]));
        }
        Check.due("unchanged", 3, () -> grid.place(0, 0, 1, 1));
    }

    private static void align() {
        GridEngine grid = gridOf(1);
        Check.due("at first", 0, () -> grid.align(0, 0, 3));
        Check.due("the other axis", 0, () -> grid.align(0, 1, 2));
        Check.due("again", 3, () -> grid.align(0, 0, 1));
        Check.thrown("no item", MISSING, () -> grid.align(1, 5, 9));
        Check.thrown("no axis", REFUSED, () -> grid.align(0, 2, 1));
        Check.thrown("alignment 4", REFUSED, () -> grid.align(0, 0, 4));
        Check.thrown("alignment -1", REFUSED, () -> grid.align(0, 0, -1));
        Check.due("unchanged", 1, () -> grid.align(0, 0, 0));
    }

    private static void contribute() {
        GridEngine grid = new GridEngine();
        grid.addItem(10, 20, 30, 40);
        Check.due("small width", 10, () -> grid.contribute(0, 0, false, 20));
        Check.due("large width", 20, () -> grid.contribute(0, 0, true, 999));
        Check.due("small height", 30, () -> grid.contribute(0, 1, false, 0));
        Check.due("large height", 40, () -> grid.contribute(0, 1, true, 0));
        Check.thrown("no item", MISSING, () -> grid.contribute(1, 5, true, -1));
        Check.thrown("no axis", REFUSED, () -> grid.contribute(0, -1, true, 50));
        Check.thrown("below 0", REFUSED, () -> grid.contribute(0, 0, false, -1));
        Check.thrown("above 999", REFUSED, () -> grid.contribute(0, 0, true, 1000));
        Check.thrown("large below small", REFUSED, () -> grid.contribute(0, 0, true, 19));
        Check.thrown("small above large", REFUSED, () -> grid.contribute(0, 1, false, 1));
        Check.sizes("base width", grid, 0, 1, 20);
        Check.sizes("limit of the width", grid, 0, 2, 999);
        Check.sizes("height", grid, 1, 2, 0);
    }

    private static void removeItem() {
        GridEngine grid = gridOf(3);
        grid.place(2, 0, 5, 2);
        Check.thrown("no item -1", MISSING, () -> grid.removeItem(-1));
        Check.thrown("no item 3", MISSING, () -> grid.removeItem(3));
        Check.due("removeItem", 2, () -> grid.removeItem(0));
        Check.due("the next one", 1, () -> grid.contribute(0, 0, false, 1));
        Check.due("the last one", 52, () -> grid.place(1, 0, 5, 2));
        Check.due("removeItem of the last", 1, () -> grid.removeItem(1));
        Check.due("a new one is as new", 1, () -> grid.addItem(0, 0, 0, 0));
        Check.due("automatic, span 1", 1, () -> grid.place(1, 0, 1, 1));
        Check.due("items", 2, () -> grid.items());
    }

    private static void exchange() {
        GridEngine grid = gridOf(3);
        grid.place(0, 0, 7, 2);
        grid.align(0, 1, 2);
        Check.thrown("no first", MISSING, () -> grid.exchange(3, 0));
        Check.thrown("no second", MISSING, () -> grid.exchange(0, -1));
        Check.due("exchange", 3, () -> grid.exchange(0, 2));
        Check.due("place of the other", 72, () -> grid.place(2, 0, 7, 2));
        Check.due("place of the one", 1, () -> grid.place(0, 0, GridEngine.NONE, 1));
        Check.due("alignment", 2, () -> grid.align(2, 1, 2));
        Check.due("contribution", 202, () -> grid.contribute(0, 1, true, 202));
        Check.due("with itself", 3, () -> grid.exchange(1, 1));
        Check.due("stays", 1, () -> grid.contribute(1, 0, false, 1));
    }

    private static void tracks() {
        GridEngine grid = Check.grid("1 2 3", "");
        Check.due("explicit columns", 3, () -> grid.tracks(0));
        Check.due("no rows", 0, () -> grid.tracks(1));
        for (int item = 0; item < 4; item++) {
            grid.addItem(0, 0, 0, 0);
        }
        Check.due("two rows", 2, () -> grid.tracks(1));
        grid.place(0, 0, 12, 4);
        Check.due("implicit columns", 15, () -> grid.tracks(0));
        Check.thrown("no axis 2", REFUSED, () -> grid.tracks(2));
        Check.thrown("no axis -1", REFUSED, () -> grid.tracks(-1));
        GridEngine tall = gridOf(12);
        for (int item = 0; item < 12; item++) {
            tall.place(item, 1, item == 0 ? 12 : GridEngine.NONE, 4);
            tall.place(item, 0, item == 0 ? 1 : GridEngine.NONE, 1);
        }
        tall.setFlow(0, false);
        Check.due("stacked around the fixed one", 15 + 4 * 9, () -> tall.tracks(1));
        Check.due("the side count makes no tracks", 1, () -> tall.tracks(0));
    }

    private static void cursorByRows() {
        GridEngine grid = Check.grid("1 1 1", "");
        for (int item = 0; item < 3; item++) {
            grid.addItem(0, 0, 0, 0);
        }
        grid.place(0, 0, GridEngine.NONE, 2);
        grid.place(1, 0, GridEngine.NONE, 2);
        Check.at("sparse", grid, 0, 1, 1);
        Check.at("sparse", grid, 1, 1, 2);
        Check.at("sparse", grid, 2, 3, 2);
        grid.setFlow(0, true);
        Check.at("dense", grid, 1, 1, 2);
        Check.at("dense", grid, 2, 3, 1);
    }

    private static void cursorByColumns() {
        GridEngine grid = Check.grid("", "1 1 1");
        for (int item = 0; item < 3; item++) {
            grid.addItem(0, 0, 0, 0);
        }
        grid.place(0, 1, GridEngine.NONE, 2);
        grid.place(1, 1, GridEngine.NONE, 2);
        grid.setFlow(1, false);
        Check.at("sparse", grid, 0, 1, 1);
        Check.at("sparse", grid, 1, 2, 1);
        Check.at("sparse", grid, 2, 2, 3);
        grid.setFlow(1, true);
        Check.at("dense", grid, 2, 1, 3);
        Check.due("columns", 2, () -> grid.tracks(0));
    }

    private static void startsOnSideAxis() {
        GridEngine grid = gridOf(4);
        grid.place(0, 0, 2, 1);
        grid.place(1, 0, 1, 1);
        grid.place(2, 0, 2, 1);
        Check.at("first", grid, 0, 2, 1);
        Check.at("behind the cursor", grid, 1, 1, 2);
        Check.at("ahead of the cursor", grid, 2, 2, 2);
        Check.at("without starts", grid, 3, 1, 3);
        grid.setFlow(0, true);
        Check.at("dense", grid, 1, 1, 1);
        Check.at("dense", grid, 2, 2, 2);
        Check.at("dense", grid, 3, 1, 2);
    }

    private static void startsOnMainAxis() {
        GridEngine grid = gridOf(4);
        grid.place(0, 0, 2, 1);
        grid.place(0, 1, 1, 1);
        grid.place(1, 1, 1, 1);
        grid.place(1, 0, GridEngine.NONE, 2);
        grid.place(2, 1, 1, 1);
        grid.place(3, 1, 2, 1);
        Check.at("fixed", grid, 0, 2, 1);
        Check.at("the lowest free start", grid, 1, 3, 1);
        Check.at("sparse: greater starts only", grid, 2, 5, 1);
        Check.at("another main start", grid, 3, 1, 2);
        grid.setFlow(0, true);
        Check.at("dense", grid, 2, 1, 1);
        grid.place(0, 0, 3, 1);
        Check.at("dense, ahead of the fixed one", grid, 1, 1, 1);
        GridEngine apart = gridOf(3);
        apart.place(0, 0, 5, 1);
        apart.place(0, 1, 2, 1);
        apart.place(1, 1, 1, 2);
        apart.place(2, 1, 2, 1);
        Check.at("starts of other steps and other main starts do not count", apart, 2, 2, 2);
        apart.place(1, 1, 2, 1);
        Check.at("greater than the last start", apart, 2, 2, 2);
        GridEngine narrow = gridOf(2);
        narrow.place(0, 1, 2, 1);
        narrow.place(0, 0, 1, 1);
        narrow.place(1, 1, 1, 1);
        Check.at("a row ahead of the fixed one", narrow, 1, 1, 1);
        GridEngine over = gridOf(2);
        for (int item = 0; item < 2; item++) {
            over.place(item, 0, 1, 1);
            over.place(item, 1, 1, 1);
        }
        Check.at("fixed over another", over, 1, 1, 1);
    }

    private static void sideCount() {
        GridEngine grid = gridOf(3);
        grid.place(0, 0, GridEngine.NONE, 3);
        Check.at("the span of another makes room", grid, 1, 1, 2);
        Check.at("the span of another makes room", grid, 2, 2, 2);
        grid.place(0, 0, GridEngine.NONE, 1);
        Check.at("one column", grid, 2, 1, 3);
        grid.place(2, 0, 2, 2);
        Check.at("what a start would cover", grid, 1, 2, 1);
        Check.at("the start itself", grid, 2, 2, 2);
        grid.place(2, 0, GridEngine.NONE, 1);
        grid.place(2, 1, 5, 1);
        Check.at("one column again", grid, 1, 1, 2);
    }

    private static void startOfRefused() {
        GridEngine grid = gridOf(1);
        Check.thrown("no item, no axis", MISSING, () -> grid.startOf(1, 2));
        Check.thrown("no item -1", MISSING, () -> grid.startOf(-1, 0));
        Check.thrown("no axis", REFUSED, () -> grid.startOf(0, 2));
    }

    private static void itemIn() {
        GridEngine grid = Check.grid("1 1 1", "1 1");
        grid.addItem(0, 0, 0, 0);
        grid.addItem(0, 0, 0, 0);
        for (int item = 0; item < 2; item++) {
            grid.place(item, 0, 1 + item, 2);
            grid.place(item, 1, 1, 1);
        }
        Check.due("the first only", 0, () -> grid.itemIn(1, 1));
        Check.due("the highest", 1, () -> grid.itemIn(2, 1));
        Check.due("the second only", 1, () -> grid.itemIn(3, 1));
        Check.thrown("no item", NoSuchElementException.class, () -> grid.itemIn(1, 2));
        int[][] wrong = {{0, 1}, {4, 1}, {1, 0}, {1, 3}, {Integer.MIN_VALUE, 1}};
        for (int[] cell : wrong) {
            Check.thrown("no cell", MISSING, () -> grid.itemIn(cell[0], cell[1]));
        }
    }

    private static void cells() {
        GridEngine grid = Check.grid("1 1 1", "1 1");
        Check.due("all", 6, () -> grid.cells(0));
        Check.due("all are free", 6, () -> grid.cells(1));
        for (int item = 0; item < 3; item++) {
            grid.addItem(0, 0, 0, 0);
            grid.place(item, 0, 1 + item / 2, 2);
            grid.place(item, 1, 1, 1);
        }
        Check.due("all", 6, () -> grid.cells(0));
        Check.due("free", 3, () -> grid.cells(1));
        Check.due("under several", 2, () -> grid.cells(2));
        Check.thrown("what 3", REFUSED, () -> grid.cells(3));
        Check.thrown("what -1", REFUSED, () -> grid.cells(-1));
    }
}
