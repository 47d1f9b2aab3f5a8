import java.util.NoSuchElementException;

/**
 * The sentences of the document that name a boundary case of settings, of items and of their
 * places (promises 6 to 18): each test quotes its sentence.
 */
public final class ItemBoundaryTests {
    private static final Class<IllegalArgumentException> REFUSED = IllegalArgumentException.class;
    private static final Class<IllegalStateException> STATE = IllegalStateException.class;
    private static final Class<IndexOutOfBoundsException> MISSING =
        IndexOutOfBoundsException.class;
    private static final Class<NoSuchElementException> NOTHING = NoSuchElementException.class;
    private static final int NONE = GridEngine.NONE;
    private static final int[] NO_AXES = {-1, 2, Integer.MIN_VALUE, Integer.MAX_VALUE};
    // The rich grid of the refusals has the items 0 and 1.
    private static final int[] NO_ITEMS = {-1, 2, 12, Integer.MIN_VALUE, Integer.MAX_VALUE};

    public static void main(String[] args) {
        settingsAtTheirBounds();
        settingsOutOfRange();
        setAnswersThePreviousValue();
        flowIs0Or1();
        setFlowAnswersThePreviousFlow();
        twelveItemsAtMost();
        contributionsGoFrom0To999();
        smallContributionsAreNotAboveLargeOnes();
        addItemLooksAtContributionsAheadOfTheNumber();
        newItemsAreAutomatic();
        startsAreLines1To12OrAutomatic();
        spansAre1To4();
        placeNeedsAnItemAndAnAxis();
        alignmentsAre0To3();
        contributeAtTheBounds();
        contributeOutOfRange();
        removeItemLowersHigherNumbers();
        removeItemLeavesNothingOfIt();
        removeItemNeedsAnItem();
        exchangeOfAnyTwo();
        exchangeNeedsBothItems();
        itemsGoFrom0To12();
        placesAreFreeWithoutACommonCell();
        step1PlacesOverOthers();
        step2TakesTheLowestFreeStart();
        step2SparseTakesGreaterStarts();
        step2LooksAtTheSameStepAndMainStart();
        step2GoesBeyondExplicitTracks();
        step3TakesTheGreatestCount();
        step3MakesNoTracks();
        step4BeginsAt1And1();
        step4GrowsIfTheStartIsLess();
        step4TurnsAtTheSideCount();
        step4KeepsTheCursorAtTheStart();
        step4DenseBeginsAnew();
        gridsHaveExplicitTracksOrMore();
        gridsReachFarBehindTheLastLine();
        tracksNeedsAnAxis();
        startOfNeedsAnItemAndAnAxis();
        itemInHasCellsFrom1();
        itemInTellsTheHighest();
        cellsOfEachKind();
        cellsOutOfRange();
        Check.finish("ItemBoundaryTests");
    }

    private static GridEngine gridOf(int items) {
        return add(new GridEngine(), items);
    }

    private static GridEngine add(GridEngine grid, int items) {
        for (int item = 0; item < items; item++) {
            grid.addItem(0, 0, 0, 0);
        }
        return grid;
    }

    /** Adds an item with starts and spans on both axes. */
    private static int put(GridEngine grid, int column, int columns, int row, int rows) {
        int item = grid.addItem(0, 0, 0, 0);
        grid.place(item, 0, column, columns);
        grid.place(item, 1, row, rows);
        return item;
    }

    // ---- promise 6

    // Sizing 3: "a size from 0 to 9999, or none". Collapsing: "The gap is from 0 to 99".
    // Positions: "The content alignment of an axis is 0 stretch, [..] or 6 space evenly".
    private static void settingsAtTheirBounds() {
        int[][] rows = {{0, NONE}, {0, 0}, {0, 1}, {0, 9998}, {0, 9999}, {1, 0}, {1, 1}, {1, 98},
            {1, 99}, {2, 0}, {2, 1}, {2, 2}, {2, 3}, {2, 4}, {2, 5}, {2, 6}};
        for (int axis = 0; axis < 2; axis++) {
            int a = axis;
            GridEngine grid = new GridEngine();
            for (int[] row : rows) {
                grid.set(a, row[0], row[1]);
                Check.due("setting " + row[0], row[1], () -> grid.set(a, row[0], row[1]));
            }
        }
        GridEngine grid = Check.grid("1 1", "");
        grid.set(0, 1, 99);
        Check.due("the greatest gap", 101, () -> grid.total(0, 5));
        grid.set(0, 0, 9999);
        Check.due("the greatest size", 9898, () -> grid.free(0));
        grid.set(0, 0, 0);
        Check.due("the least size is not none", -101, () -> grid.free(0));
    }

    // Promise 6: "Throws IllegalArgumentException if there is no such axis or setting, or if the
    // value is out of range"
    private static void settingsOutOfRange() {
        int least = Integer.MIN_VALUE;
        int most = Integer.MAX_VALUE;
        int[][] rows = {{0, -2}, {0, 10000}, {0, least}, {0, most}, {1, -1}, {1, 100}, {1, least},
            {1, most}, {2, -1}, {2, 7}, {2, least}, {2, most}, {-1, 0}, {3, 0}, {least, 0},
            {most, 0}};
        for (int[] row : rows) {
            for (int axis = 0; axis < 2; axis++) {
                int a = axis;
                Refusal.thrown("set(" + a + ", " + row[0] + ", " + row[1] + ")", REFUSED,
                    grid -> grid.set(a, row[0], row[1]));
            }
        }
        for (int axis : NO_AXES) {
            Refusal.thrown("set on axis " + axis, REFUSED, grid -> grid.set(axis, 0, 5));
        }
    }

    // Promise 6: "Returns the previous value."
    private static void setAnswersThePreviousValue() {
        for (int axis = 0; axis < 2; axis++) {
            int a = axis;
            GridEngine grid = new GridEngine();
            Check.due("none at first", NONE, () -> grid.set(a, 0, 0));
            Check.due("0", 0, () -> grid.set(a, 0, 9999));
            Check.due("9999", 9999, () -> grid.set(a, 0, NONE));
            Check.due("none again", NONE, () -> grid.set(a, 0, NONE));
            Check.due("no gap at first", 0, () -> grid.set(a, 1, 99));
            Check.due("99", 99, () -> grid.set(a, 1, 0));
            Check.due("stretch at first", 0, () -> grid.set(a, 2, 6));
            Check.due("space evenly", 6, () -> grid.set(a, 2, 0));
            Check.due("the other axis", NONE, () -> grid.set(1 - a, 0, 3));
            Check.due("this axis stays", NONE, () -> grid.set(a, 0, 3));
        }
    }

    // ---- promise 7

    // Promise 7: "flow: 0 by rows, 1 by columns", "Throws IllegalArgumentException if the flow is
    // out of range"
    private static void flowIs0Or1() {
        GridEngine grid = Check.grid("1 1", "1 1");
        add(grid, 2);
        grid.setFlow(1, false);
        Check.at("by columns", grid, 1, 1, 2);
        grid.setFlow(0, false);
        Check.at("by rows", grid, 1, 2, 1);
        for (int flow : new int[] {-1, 2, Integer.MIN_VALUE, Integer.MAX_VALUE}) {
            Refusal.thrown("flow " + flow, REFUSED, g -> g.setFlow(flow, false));
            Refusal.thrown("dense flow " + flow, REFUSED, g -> g.setFlow(flow, true));
        }
    }

    // Promise 7: "Returns 2 times the previous flow, plus 1 if it was dense."
    private static void setFlowAnswersThePreviousFlow() {
        for (int previous = 0; previous < 4; previous++) {
            int p = previous;
            GridEngine grid = new GridEngine();
            grid.setFlow(p / 2, p % 2 == 1);
            Check.due("the previous flow", p, () -> grid.setFlow(0, false));
            Check.due("by rows, sparse", 0, () -> grid.setFlow(p / 2, p % 2 == 1));
        }
    }

    // ---- promise 8

    // Items: "There are at most 12 items, numbered from 0." Promise 8: "Throws
    // IllegalStateException if there are 12 items"
    private static void twelveItemsAtMost() {
        GridEngine grid = new GridEngine();
        for (int item = 0; item < 12; item++) {
            int i = item;
            Check.due("addItem", i, () -> grid.addItem(0, 0, 0, 0));
        }
        Check.thrown("the thirteenth", STATE, () -> grid.addItem(0, 0, 0, 0));
        Check.due("items", 12, () -> grid.items());
        Refusal.thrown("addItem to 12", STATE, Refusal::fullGrid, g -> g.addItem(0, 0, 0, 0));
        grid.removeItem(5);
        Check.due("room for one again", 11, () -> grid.addItem(0, 0, 0, 0));
        Check.thrown("and for no more", STATE, () -> grid.addItem(0, 0, 0, 0));
    }

    // Items: "a small and a large contribution, from 0 to 999". Promise 8: "Throws
    // IllegalArgumentException if a contribution is out of range"
    private static void contributionsGoFrom0To999() {
        GridEngine grid = new GridEngine();
        Check.due("the least", 0, () -> grid.addItem(0, 0, 0, 0));
        Check.due("the greatest", 1, () -> grid.addItem(999, 999, 999, 999));
        Check.due("both", 2, () -> grid.addItem(0, 999, 0, 999));
        for (int axis = 0; axis < 2; axis++) {
            int a = axis;
            Check.due("small 0", 0, () -> grid.contribute(0, a, false, 0));
            Check.due("large 0", 0, () -> grid.contribute(0, a, true, 0));
            Check.due("small 999", 999, () -> grid.contribute(1, a, false, 999));
            Check.due("large 999", 999, () -> grid.contribute(1, a, true, 999));
        }
        int[][] rows = {{-1, 5, 5, 5}, {-1, -1, 5, 5}, {5, 1000, 5, 5}, {1000, 1000, 5, 5},
            {5, 5, -1, 5}, {5, 5, -1, -1}, {5, 5, 5, 1000}, {5, 5, 1000, 1000},
            {Integer.MIN_VALUE, 5, 5, 5}, {5, Integer.MAX_VALUE, 5, 5},
            {5, 5, Integer.MIN_VALUE, 5}, {5, 5, 5, Integer.MAX_VALUE},
            {Integer.MIN_VALUE, Integer.MAX_VALUE, 5, 5}};
        addItemRefuses(rows);
    }

    private static void addItemRefuses(int[][] rows) {
        for (int[] row : rows) {
            Refusal.thrown("addItem " + row[0] + " " + row[1] + " " + row[2] + " " + row[3],
                REFUSED, grid -> grid.addItem(row[0], row[1], row[2], row[3]));
        }
    }

    // Items: "the small one not above the large one". Promise 8: "or a small one is above its
    // large one"
    private static void smallContributionsAreNotAboveLargeOnes() {
        GridEngine grid = new GridEngine();
        Check.due("equal ones", 0, () -> grid.addItem(7, 7, 8, 8));
        Check.due("less by 1", 1, () -> grid.addItem(6, 7, 7, 8));
        Check.due("a small width above the large height", 2, () -> grid.addItem(9, 9, 1, 1));
        addItemRefuses(new int[][] {{8, 7, 8, 8}, {7, 7, 9, 8}, {999, 998, 0, 0}, {0, 0, 999, 0},
            {1, 0, 1, 0}});
    }

    // Description: "If several exceptions apply, the one named first is thrown."
    private static void addItemLooksAtContributionsAheadOfTheNumber() {
        Refusal.thrown("wrong and full", REFUSED, Refusal::fullGrid,
            grid -> grid.addItem(1, 0, 0, 0));
        Refusal.thrown("out of range and full", REFUSED, Refusal::fullGrid,
            grid -> grid.addItem(0, 0, 0, 1000));
    }

    // Items: "a start, which is a line from 1 to 12, or automatic, as it is at first; a span, from
    // 1 to 4 tracks, at first 1; and an alignment [..] at first 0."
    private static void newItemsAreAutomatic() {
        GridEngine grid = new GridEngine();
        for (int turn = 0; turn < 2; turn++) {
            grid.addItem(1, 2, 3, 4);
            for (int axis = 0; axis < 2; axis++) {
                int a = axis;
                Check.due("automatic, span 1", 1, () -> grid.place(0, a, 5, 3));
                Check.due("stretch", 0, () -> grid.align(0, a, 2));
            }
            // The next item takes the number, but nothing else of this one.
            grid.removeItem(0);
        }
    }

    // ---- promise 9

    // Promise 9: "start: the line, 1 to 12, or NONE", "Returns 10 times the previous start, where
    // NONE counts as 0, plus the previous span."
    private static void startsAreLines1To12OrAutomatic() {
        for (int axis = 0; axis < 2; axis++) {
            int a = axis;
            GridEngine grid = gridOf(1);
            Check.due("NONE and 1 at first", 1, () -> grid.place(0, a, 1, 1));
            Check.due("start 1", 11, () -> grid.place(0, a, 12, 4));
            Check.due("the start", 12, () -> grid.startOf(0, a));
            Check.due("start 12 and span 4", 124, () -> grid.place(0, a, NONE, 4));
            Check.due("the automatic start", 1, () -> grid.startOf(0, a));
            Check.due("NONE and 4", 4, () -> grid.place(0, a, NONE, 1));
            for (int start : new int[] {0, -2, 13, 120, Integer.MIN_VALUE, Integer.MAX_VALUE}) {
                Refusal.thrown("start " + start, REFUSED, g -> g.place(0, a, start, 1));
            }
        }
    }

    // Promise 9: "span: the number of tracks, 1 to 4", "Throws IllegalArgumentException if there
    // is no such axis, or the start or the span is out of range"
    private static void spansAre1To4() {
        for (int axis = 0; axis < 2; axis++) {
            int a = axis;
            GridEngine grid = gridOf(1);
            for (int span = 1; span <= 4; span++) {
                int s = span;
                grid.place(0, a, NONE, s);
                Check.due("tracks of span " + s, s, () -> grid.tracks(a));
            }
            for (int span : new int[] {0, -1, 5, Integer.MIN_VALUE, Integer.MAX_VALUE}) {
                Refusal.thrown("span " + span, REFUSED, g -> g.place(0, a, 1, span));
                Refusal.thrown("automatic, span " + span, REFUSED, g -> g.place(0, a, NONE, span));
            }
        }
    }

    // Promise 9: "Throws IndexOutOfBoundsException if there is no such item", ahead of the rest.
    private static void placeNeedsAnItemAndAnAxis() {
        for (int item : NO_ITEMS) {
            Refusal.thrown("place of item " + item, MISSING, grid -> grid.place(item, 0, 1, 1));
            Refusal.thrown("all is wrong", MISSING, grid -> grid.place(item, 2, 0, 0));
        }
        for (int axis : NO_AXES) {
            Refusal.thrown("place on axis " + axis, REFUSED, grid -> grid.place(0, axis, 1, 1));
        }
        Check.thrown("no items at all", MISSING, () -> new GridEngine().place(0, 0, 1, 1));
    }

    // ---- promises 10 and 11

    // Promise 10: "alignment: the alignment, 0 to 3", "Throws IllegalArgumentException if there
    // is no such axis, or the alignment is out of range"
    private static void alignmentsAre0To3() {
        for (int axis = 0; axis < 2; axis++) {
            int a = axis;
            GridEngine grid = gridOf(1);
            for (int alignment = 0; alignment <= 3; alignment++) {
                int previous = Math.max(0, alignment - 1);
                int next = alignment;
                Check.due("the previous alignment", previous, () -> grid.align(0, a, next));
            }
            Check.due("the last alignment", 3, () -> grid.align(0, a, 0));
            for (int wrong : new int[] {-1, 4, Integer.MIN_VALUE, Integer.MAX_VALUE}) {
                Refusal.thrown("alignment " + wrong, REFUSED, g -> g.align(0, a, wrong));
            }
        }
        for (int item : NO_ITEMS) {
            Refusal.thrown("align of item " + item, MISSING, grid -> grid.align(item, 0, 1));
            Refusal.thrown("all is wrong", MISSING, grid -> grid.align(item, 2, 4));
        }
        for (int axis : NO_AXES) {
            Refusal.thrown("align on axis " + axis, REFUSED, grid -> grid.align(0, axis, 1));
        }
    }

    // Items: "a small and a large contribution, from 0 to 999, the small one not above the large
    // one". Promise 11: "Returns the previous value."
    private static void contributeAtTheBounds() {
        for (int axis = 0; axis < 2; axis++) {
            int a = axis;
            GridEngine grid = new GridEngine();
            grid.addItem(10, 20, 10, 20);
            Check.due("small as large", 10, () -> grid.contribute(0, a, false, 20));
            Check.due("small to 0", 20, () -> grid.contribute(0, a, false, 0));
            Check.due("large as small", 20, () -> grid.contribute(0, a, true, 0));
            Check.due("large to 999", 0, () -> grid.contribute(0, a, true, 999));
            Check.due("small to 999", 0, () -> grid.contribute(0, a, false, 999));
            Check.due("large as small again", 999, () -> grid.contribute(0, a, true, 999));
            Check.due("the other axis", 10, () -> grid.contribute(0, 1 - a, false, 20));
            Check.due("the other axis", 20, () -> grid.contribute(0, 1 - a, true, 20));
        }
    }

    // Promise 11: "Throws IllegalArgumentException if there is no such axis, the value is not from
    // 0 to 999, or the small contribution would be above the large one". Item 1 of the rich grid
    // is 2 to 40 wide and 11 to 30 high.
    private static void contributeOutOfRange() {
        for (int axis = 0; axis < 2; axis++) {
            int a = axis;
            for (int value : new int[] {-1, 1000, Integer.MIN_VALUE, Integer.MAX_VALUE}) {
                Refusal.thrown("small " + value, REFUSED, g -> g.contribute(1, a, false, value));
                Refusal.thrown("large " + value, REFUSED, g -> g.contribute(1, a, true, value));
            }
        }
        Refusal.thrown("small above large", REFUSED, g -> g.contribute(1, 0, false, 41));
        Refusal.thrown("large below small", REFUSED, g -> g.contribute(1, 0, true, 1));
        Refusal.thrown("small above large", REFUSED, g -> g.contribute(1, 1, false, 31));
        Refusal.thrown("large below small", REFUSED, g -> g.contribute(1, 1, true, 10));
        GridEngine grid = Refusal.richGrid();
        Check.due("small as large", 2, () -> grid.contribute(1, 0, false, 40));
        Check.due("large as small", 30, () -> grid.contribute(1, 1, true, 11));
        for (int item : NO_ITEMS) {
            Refusal.thrown("contribute of item " + item, MISSING,
                g -> g.contribute(item, 0, true, 50));
            Refusal.thrown("all is wrong", MISSING, g -> g.contribute(item, 2, true, -1));
        }
        for (int axis : NO_AXES) {
            Refusal.thrown("contribute on axis " + axis, REFUSED,
                g -> g.contribute(1, axis, true, 50));
        }
    }

    // ---- promises 12 to 14

    /** Items that tell their first numbers by their small widths. */
    private static GridEngine marked(int items) {
        GridEngine grid = new GridEngine();
        for (int item = 0; item < items; item++) {
            grid.addItem(item, 50, 20 + item, 50);
            grid.place(item, 0, 12 - item, 1 + item % 4);
            grid.align(item, 1, item % 4);
        }
        return grid;
    }

    private static void dueMarks(String what, GridEngine grid, int... marks) {
        Check.due(what + ": items", marks.length, () -> grid.items());
        for (int item = 0; item < marks.length; item++) {
            int i = item;
            int mark = marks[i];
            Check.due(what + ": width of " + i, mark, () -> grid.contribute(i, 0, false, mark));
            Check.due(what + ": height of " + i, 20 + mark,
                () -> grid.contribute(i, 1, false, 20 + mark));
            Check.due(what + ": place of " + i, 10 * (12 - mark) + 1 + mark % 4,
                () -> grid.place(i, 0, 12 - mark, 1 + mark % 4));
            Check.due(what + ": alignment of " + i, mark % 4,
                () -> grid.align(i, 1, mark % 4));
        }
    }

    // Promise 12: "Removes an item. The items with higher numbers get numbers that are lower by
    // 1.", "Returns the number of items that remain."
    private static void removeItemLowersHigherNumbers() {
        int[][] rows = {{0, 1, 2, 3}, {1, 0, 2, 3}, {2, 0, 1, 3}, {3, 0, 1, 2}};
        for (int[] row : rows) {
            GridEngine grid = marked(4);
            Check.due("removeItem of " + row[0], 3, () -> grid.removeItem(row[0]));
            dueMarks("removed " + row[0], grid, row[1], row[2], row[3]);
        }
        GridEngine one = marked(1);
        Check.due("the only one", 0, () -> one.removeItem(0));
        Check.due("no items", 0, () -> one.items());
        Check.due("no tracks", 0, () -> one.tracks(0));
        Check.thrown("none is left", MISSING, () -> one.removeItem(0));
        GridEngine full = marked(12);
        Check.due("the last of 12", 11, () -> full.removeItem(11));
        dueMarks("11 items", full, 0, 1, 2, 3, 4, 5, 6, 7, 8, 9, 10);
        GridEngine first = marked(12);
        Check.due("the first of 12", 11, () -> first.removeItem(0));
        dueMarks("11 others", first, 1, 2, 3, 4, 5, 6, 7, 8, 9, 10, 11);
    }

    // Promise 12: "Removes an item." Nothing of the last one matters any more.
    private static void removeItemLeavesNothingOfIt() {
        int[][] rows = {{2, 2, 1, 2}, {1, 1, 1, 1}, {NONE, 3, NONE, 2}, {NONE, 2, 1, 1},
            {1, 2, NONE, 2}, {9, 4, 9, 4}};
        for (int[] row : rows) {
            for (int flow = 0; flow < 2; flow++) {
                int f = flow;
                Refusal.samePresent("removed " + row[0] + " " + row[1] + " " + row[2], () -> {
                    GridEngine grid = fiveItems(f);
                    grid.addItem(500, 999, 500, 999);
                    grid.place(5, 0, row[0], row[1]);
                    grid.place(5, 1, row[2], row[3]);
                    grid.cells(0);
                    grid.removeItem(5);
                    return grid;
                }, () -> fiveItems(f));
            }
        }
    }

    private static GridEngine fiveItems(int flow) {
        GridEngine grid = Check.grid("5 5?", "5? 1fr");
        grid.setFlow(flow, false);
        for (int item = 0; item < 5; item++) {
            grid.addItem(item, 8, item, 8);
        }
        grid.place(1, flow, 1, 1);
        return grid;
    }

    // Promise 12: "Throws IndexOutOfBoundsException if there is no such item"
    private static void removeItemNeedsAnItem() {
        for (int item : NO_ITEMS) {
            Refusal.thrown("removeItem of " + item, MISSING, grid -> grid.removeItem(item));
        }
        Refusal.thrown("removeItem of 12", MISSING, Refusal::fullGrid, g -> g.removeItem(12));
        Check.thrown("no items", MISSING, () -> new GridEngine().removeItem(0));
    }

    // Promise 13: "Exchanges the numbers of two items.", "other: an item, possibly the same"
    private static void exchangeOfAnyTwo() {
        GridEngine grid = marked(3);
        Check.due("the first and the last", 3, () -> grid.exchange(0, 2));
        dueMarks("the first and the last", grid, 2, 1, 0);
        Check.due("the other way round", 3, () -> grid.exchange(1, 0));
        dueMarks("the other way round", grid, 1, 2, 0);
        Check.due("the same", 3, () -> grid.exchange(2, 2));
        dueMarks("the same", grid, 1, 2, 0);
        GridEngine full = marked(12);
        Check.due("of 12", 12, () -> full.exchange(11, 0));
        dueMarks("of 12", full, 11, 1, 2, 3, 4, 5, 6, 7, 8, 9, 10, 0);
    }

    // Promise 13: "Throws IndexOutOfBoundsException if one of them does not exist"
    private static void exchangeNeedsBothItems() {
        for (int item : NO_ITEMS) {
            Refusal.thrown("exchange(0, " + item + ")", MISSING, g -> g.exchange(0, item));
            Refusal.thrown("exchange(" + item + ", 1)", MISSING, g -> g.exchange(item, 1));
            Refusal.thrown("exchange with itself", MISSING, g -> g.exchange(item, item));
        }
        Check.thrown("no items", MISSING, () -> new GridEngine().exchange(0, 0));
    }

    // Promise 14: "Returns the number of items." Items: "There are at most 12 items".
    private static void itemsGoFrom0To12() {
        GridEngine grid = new GridEngine();
        for (int count = 0; count <= 12; count++) {
            int c = count;
            Check.due("items", c, () -> grid.items());
            if (c < 12) {
                grid.addItem(0, 0, 0, 0);
            }
        }
    }

    // ---- placement, told by promises 15 and 16

    // Placement: "a place is free if it covers no cell that an item placed before covers."
    private static void placesAreFreeWithoutACommonCell() {
        GridEngine row = Check.grid("1 1 1 1", "");
        put(row, 2, 2, 1, 1);
        add(row, 3);
        Check.at("it ends where the other begins", row, 1, 1, 1);
        Check.at("it begins where the other ends", row, 2, 4, 1);
        Check.at("behind the last", row, 3, 1, 2);
        GridEngine column = Check.grid("1", "");
        put(column, 1, 1, 2, 2);
        add(column, 2);
        Check.at("above", column, 1, 1, 1);
        Check.at("below", column, 2, 1, 4);
        GridEngine tall = Check.grid("1", "");
        put(tall, 1, 1, 3, 1);
        tall.place(add(tall, 1).items() - 1, 1, NONE, 2);
        Check.at("it just fits", tall, 1, 1, 1);
        tall.place(1, 1, NONE, 3);
        Check.at("one cell is common", tall, 1, 1, 4);
        GridEngine corner = Check.grid("1 1 1", "");
        put(corner, 3, 1, 2, 1);
        corner.addItem(0, 0, 0, 0);
        corner.place(1, 0, NONE, 2);
        corner.place(1, 1, NONE, 2);
        Check.at("it meets no corner", corner, 1, 1, 1);
        corner.place(0, 0, 2, 1);
        Check.at("its last corner is common", corner, 1, 1, 3);
    }

    // Placement 1: "All items with a start on both axes are placed there, whether these places are
    // free or not."
    private static void step1PlacesOverOthers() {
        GridEngine grid = new GridEngine();
        put(grid, 12, 4, 12, 4);
        put(grid, 12, 4, 12, 4);
        put(grid, 1, 1, 1, 1);
        put(grid, 12, 1, 12, 1);
        Check.at("the first", grid, 0, 12, 12);
        Check.at("over it", grid, 1, 12, 12);
        Check.at("the least lines", grid, 2, 1, 1);
        Check.at("over both", grid, 3, 12, 12);
        Check.due("columns", 15, () -> grid.tracks(0));
        Check.due("rows", 15, () -> grid.tracks(1));
        // An item without starts that has a lower number is placed behind all of these.
        GridEngine later = gridOf(1);
        put(later, 1, 1, 1, 1);
        Check.at("the fixed one", later, 1, 1, 1);
        Check.at("the automatic one", later, 0, 1, 2);
    }

    // Placement 2: "Each item with a start on the main axis only is placed at the lowest free start
    // on the side axis". A flow by columns has "the other way round".
    private static void step2TakesTheLowestFreeStart() {
        for (int flow = 0; flow < 2; flow++) {
            for (boolean isDense : new boolean[] {false, true}) {
                String what = "flow " + flow + (isDense ? ", dense" : "");
                stepTwo(what + ", nothing before it", flow, isDense, new int[0], 1, 1);
                stepTwo(what + ", touching", flow, isDense, new int[] {1}, 1, 2);
                stepTwo(what + ", ahead of it", flow, isDense, new int[] {2}, 1, 1);
                stepTwo(what + ", it just fits ahead", flow, isDense, new int[] {3}, 2, 1);
                stepTwo(what + ", too wide ahead", flow, isDense, new int[] {2}, 2, 3);
                stepTwo(what + ", it just fits", flow, isDense, new int[] {2, 5}, 2, 3);
                stepTwo(what + ", too wide", flow, isDense, new int[] {2, 4}, 2, 5);
                stepTwo(what + ", behind 12", flow, isDense,
                    new int[] {1, 2, 3, 4, 5, 6, 7, 8, 9, 10, 11}, 4, 12);
            }
        }
    }

    /** Fixed items of span 1 on line 1 of the main axis, and one that begins there on it. */
    private static void stepTwo(String what, int flow, boolean isDense, int[] fixed, int span,
            int want) {
        int main = 1 - flow;
        GridEngine grid = new GridEngine();
        grid.setFlow(flow, isDense);
        for (int start : fixed) {
            int item = grid.addItem(0, 0, 0, 0);
            grid.place(item, main, 1, 1);
            grid.place(item, flow, start, 1);
        }
        int item = grid.addItem(0, 0, 0, 0);
        grid.place(item, main, 1, 1);
        grid.place(item, flow, NONE, span);
        Check.due(what, want, () -> grid.startOf(item, flow));
        Check.due(what + ", on the main axis", 1, () -> grid.startOf(item, main));
    }

    // Placement 2: "in a sparse flow only starts count that are greater than those of all items
    // that this step has placed before at the same start on the main axis."
    private static void step2SparseTakesGreaterStarts() {
        GridEngine grid = new GridEngine();
        put(grid, 2, 1, 1, 1);
        put(grid, NONE, 2, 1, 1);
        put(grid, NONE, 1, 1, 1);
        put(grid, NONE, 1, 1, 1);
        Check.at("two columns do not fit ahead", grid, 1, 3, 1);
        Check.at("sparse: not ahead of 3", grid, 2, 5, 1);
        Check.at("sparse: not ahead of 5", grid, 3, 6, 1);
        grid.setFlow(0, true);
        Check.at("dense", grid, 1, 3, 1);
        Check.at("dense: ahead of 3", grid, 2, 1, 1);
        Check.at("dense: the next one", grid, 3, 5, 1);
        GridEngine first = new GridEngine();
        put(first, NONE, 2, 1, 1);
        put(first, 2, 1, 1, 1);
        put(first, NONE, 1, 1, 1);
        Check.at("item 0 is of this step", first, 0, 3, 1);
        Check.at("not ahead of item 0", first, 2, 5, 1);
        // Row 2 keeps item 1 from column 2, where row 1 would have room for item 2.
        GridEngine tall = new GridEngine();
        put(tall, 1, 2, 2, 1);
        put(tall, NONE, 1, 1, 2);
        put(tall, NONE, 1, 1, 1);
        Check.at("two rows", tall, 1, 3, 1);
        Check.at("sparse: behind it", tall, 2, 4, 1);
        tall.setFlow(0, true);
        Check.at("dense: ahead of it", tall, 2, 1, 1);
    }

    // Details: "In placing, only the starts of items of the same step at the same main start
    // matter".
    private static void step2LooksAtTheSameStepAndMainStart() {
        GridEngine grid = new GridEngine();
        put(grid, 6, 1, 1, 1);
        put(grid, NONE, 1, 1, 1);
        Check.at("a start of step 1 does not matter", grid, 1, 1, 1);
        put(grid, NONE, 4, 1, 1);
        put(grid, NONE, 1, 2, 1);
        Check.at("behind the first of this step", grid, 2, 2, 1);
        Check.at("another main start", grid, 3, 1, 2);
        GridEngine tall = new GridEngine();
        put(tall, 1, 1, 1, 1);
        put(tall, NONE, 1, 1, 2);
        put(tall, NONE, 1, 2, 1);
        Check.at("it covers row 2 from row 1 on", tall, 1, 2, 1);
        Check.at("its start does not matter in row 2", tall, 2, 1, 2);
        put(tall, NONE, 1, 2, 1);
        Check.at("its cells do", tall, 3, 3, 2);
    }

    // Details: "starts on the side axis are not limited by explicit tracks".
    private static void step2GoesBeyondExplicitTracks() {
        GridEngine grid = Check.grid("1", "");
        put(grid, NONE, 1, 1, 1);
        put(grid, NONE, 1, 1, 1);
        put(grid, NONE, 4, 1, 1);
        Check.at("the explicit column", grid, 0, 1, 1);
        Check.at("beyond it", grid, 1, 2, 1);
        Check.at("further beyond", grid, 2, 3, 1);
        Check.due("columns", 6, () -> grid.tracks(0));
    }

    /** As many automatic items as the side count fill a line of cells; the next one turns. */
    private static void dueSideCount(String what, GridEngine grid, int side, int row, int want) {
        int first = grid.items();
        add(grid, want + 1);
        for (int i = 0; i < want; i++) {
            int place = i;
            Check.due(what + ": side start " + i, place + 1,
                () -> grid.startOf(first + place, side));
            Check.due(what + ": main start " + i, row,
                () -> grid.startOf(first + place, 1 - side));
        }
        Check.due(what + ": it turns", 1, () -> grid.startOf(first + want, side));
        Check.due(what + ": it turns", row + 1, () -> grid.startOf(first + want, 1 - side));
    }

    // Placement 3: "The side count is the greatest of: the number of explicit tracks of the side
    // axis; the last tracks of the side axis that the items placed so far cover; the last tracks
    // that items with a start on the side axis only would cover; the spans of the other items on
    // the side axis; and 1."
    private static void step3TakesTheGreatestCount() {
        dueSideCount("1", new GridEngine(), 0, 1, 1);
        dueSideCount("explicit tracks", Check.grid("1 1 1", "1 1"), 0, 1, 3);
        dueSideCount("the main axis does not count", Check.grid("", "1 1 1"), 0, 1, 1);
        GridEngine byColumns = Check.grid("1 1", "1 1 1");
        byColumns.setFlow(1, false);
        dueSideCount("explicit tracks by columns", byColumns, 1, 1, 3);
        GridEngine fixed = Check.grid("1", "");
        put(fixed, 2, 3, 5, 1);
        dueSideCount("placed in step 1", fixed, 0, 1, 4);
        GridEngine second = Check.grid("1", "");
        put(second, NONE, 2, 5, 1);
        put(second, NONE, 1, 5, 1);
        dueSideCount("placed in step 2", second, 0, 1, 3);
        GridEngine side = Check.grid("1", "");
        put(side, 3, 2, NONE, 1);
        // The cursor stands behind this item, so the line below it is the first to be filled.
        dueSideCount("a start on the side axis", side, 0, 2, 4);
        GridEngine span = Check.grid("1", "");
        put(span, NONE, 3, NONE, 1);
        dueSideCount("a span", span, 0, 2, 3);
        GridEngine far = Check.grid("1 1", "");
        put(far, 12, 4, 9, 1);
        add(far, 11);
        Check.at("the last of 11", far, 11, 11, 1);
        far.removeItem(0);
        Check.at("two explicit columns", far, 10, 1, 6);
    }

    // Details: "The side count does not make tracks."
    private static void step3MakesNoTracks() {
        GridEngine empty = new GridEngine();
        empty.setFlow(0, true);
        Check.due("no column for the count 1", 0, () -> empty.tracks(0));
        Check.due("no row", 0, () -> empty.tracks(1));
        empty.setFlow(1, false);
        Check.due("no row by columns", 0, () -> empty.tracks(1));
        GridEngine grid = new GridEngine();
        put(grid, 1, 2, 1, 1);
        add(grid, 1);
        Check.at("a count of 2", grid, 1, 1, 2);
        Check.due("two columns", 2, () -> grid.tracks(0));
        grid.place(0, 0, 1, 1);
        Check.due("one column", 1, () -> grid.tracks(0));
    }

    // Placement 4: "a main and a side coordinate, which are 1 and 1 at first".
    private static void step4BeginsAt1And1() {
        for (int flow = 0; flow < 2; flow++) {
            for (boolean isDense : new boolean[] {false, true}) {
                GridEngine free = Check.grid("1 1", "1 1");
                free.setFlow(flow, isDense);
                add(free, 1);
                Check.at("without starts", free, 0, 1, 1);
                free.place(0, flow, 1, 1);
                Check.at("the start 1 is not less than 1", free, 0, 1, 1);
                free.place(0, flow, 2, 1);
                Check.due("side start 2", 2, () -> free.startOf(0, 0) * free.startOf(0, 1));
            }
        }
    }

    // Placement 4: "if this start is less than the side coordinate of the cursor, the main
    // coordinate grows by 1; the side coordinate becomes the start; then the main coordinate grows
    // by 1 until the place is free."
    private static void step4GrowsIfTheStartIsLess() {
        GridEngine grid = new GridEngine();
        put(grid, 2, 1, NONE, 1);
        put(grid, 2, 1, NONE, 1);
        put(grid, 3, 1, NONE, 1);
        put(grid, 2, 1, NONE, 1);
        put(grid, 1, 1, NONE, 1);
        Check.at("the first", grid, 0, 2, 1);
        Check.at("an equal start", grid, 1, 2, 2);
        Check.at("a greater start", grid, 2, 3, 2);
        Check.at("less by 1", grid, 3, 2, 3);
        Check.at("less by 1 again", grid, 4, 1, 4);
        add(grid, 1);
        Check.at("an automatic one goes on behind it", grid, 5, 2, 4);
        GridEngine blocked = new GridEngine();
        put(blocked, 1, 1, 2, 2);
        put(blocked, 2, 1, NONE, 1);
        put(blocked, 1, 1, NONE, 2);
        put(blocked, 1, 1, NONE, 1);
        Check.at("in row 1", blocked, 1, 2, 1);
        Check.at("rows 2 and 3 are taken", blocked, 2, 1, 4);
        Check.at("row by row", blocked, 3, 1, 6);
        blocked.setFlow(0, true);
        Check.at("dense: it does not fit above", blocked, 2, 1, 4);
        Check.at("dense: it fits above", blocked, 3, 1, 1);
    }

    // Placement 4: "as long as the item would cover a track beyond the side count, or the place is
    // not free, the side coordinate grows by 1; if the item would then cover a track beyond the
    // side count, the main coordinate grows by 1, and the side coordinate becomes 1."
    private static void step4TurnsAtTheSideCount() {
        GridEngine grid = Check.grid("1 1 1", "");
        put(grid, NONE, 1, NONE, 1);
        put(grid, NONE, 2, NONE, 1);
        put(grid, NONE, 1, NONE, 1);
        put(grid, NONE, 1, NONE, 1);
        put(grid, NONE, 2, NONE, 1);
        put(grid, NONE, 3, NONE, 1);
        put(grid, NONE, 3, NONE, 1);
        Check.at("the first", grid, 0, 1, 1);
        Check.at("it ends at the side count", grid, 1, 2, 1);
        Check.at("it turns", grid, 2, 1, 2);
        Check.at("the next", grid, 3, 2, 2);
        Check.at("it would end one beyond", grid, 4, 1, 3);
        Check.at("as wide as the side count", grid, 5, 1, 4);
        Check.at("once more", grid, 6, 1, 5);
        Check.due("no more columns", 3, () -> grid.tracks(0));
        // The cursor stands at column 3 of 3, where an item of two columns cannot be.
        GridEngine late = Check.grid("1 1 1", "");
        put(late, 3, 1, NONE, 1);
        put(late, NONE, 2, NONE, 1);
        Check.at("at the side count", late, 0, 3, 1);
        Check.at("it turns at once", late, 1, 1, 2);
        late.setFlow(0, true);
        Check.at("dense: ahead of it", late, 1, 1, 1);
    }

    // Details: "behind an item the cursor stays where the item starts."
    private static void step4KeepsTheCursorAtTheStart() {
        GridEngine tall = Check.grid("1 1", "");
        put(tall, NONE, 1, NONE, 3);
        add(tall, 2);
        Check.at("beside its first row", tall, 1, 2, 1);
        Check.at("beside its second row", tall, 2, 2, 2);
        GridEngine wide = Check.grid("1 1 1 1", "");
        put(wide, NONE, 2, NONE, 2);
        put(wide, 3, 1, NONE, 1);
        Check.at("the start behind a wide one", wide, 1, 3, 1);
        wide.place(1, 0, 2, 1);
        Check.at("a start below a wide one", wide, 1, 2, 3);
    }

    // Placement 4: "in a dense flow the cursor is set to 1 and 1 again before each item."
    private static void step4DenseBeginsAnew() {
        GridEngine grid = Check.grid("1 1 1", "");
        put(grid, NONE, 2, NONE, 1);
        put(grid, NONE, 2, NONE, 1);
        put(grid, NONE, 1, NONE, 1);
        put(grid, 3, 1, NONE, 1);
        put(grid, 1, 1, NONE, 1);
        Check.at("sparse", grid, 1, 1, 2);
        Check.at("sparse", grid, 2, 3, 2);
        Check.at("sparse", grid, 3, 3, 3);
        Check.at("sparse", grid, 4, 1, 4);
        grid.setFlow(0, true);
        Check.at("dense", grid, 1, 1, 2);
        Check.at("dense, ahead of the one before", grid, 2, 3, 1);
        Check.at("dense, a side start", grid, 3, 3, 2);
        Check.at("dense, a side start", grid, 4, 1, 3);
    }

    // ---- promises 15 to 18

    // Placement: "The grid has on each axis as many tracks as there are explicit ones, or as many
    // as the items need, if these are more."
    private static void gridsHaveExplicitTracksOrMore() {
        for (int axis = 0; axis < 2; axis++) {
            int a = axis;
            GridEngine grid = Check.grid("1 1 1", "1 1 1");
            Check.due("explicit ones alone", 3, () -> grid.tracks(a));
            add(grid, 1);
            grid.place(0, a, 1, 2);
            Check.due("the items need fewer", 3, () -> grid.tracks(a));
            grid.place(0, a, 2, 2);
            Check.due("the items need as many", 3, () -> grid.tracks(a));
            grid.place(0, a, 3, 2);
            Check.due("the items need one more", 4, () -> grid.tracks(a));
            Check.due("the other axis", 3, () -> grid.tracks(1 - a));
            grid.place(0, a, 12, 4);
            Check.due("the last track of a start", 15, () -> grid.tracks(a));
        }
    }

    // The same, where the items need many more: one ends at track 15, two of span 4 lie ahead of
    // it, and nine more behind it. First by step 2, then by the cursor.
    private static void gridsReachFarBehindTheLastLine() {
        GridEngine wide = gridOf(12);
        GridEngine tall = gridOf(12);
        for (int item = 0; item < 12; item++) {
            int start = item == 11 ? 12 : NONE;
            wide.place(item, 0, start, 4);
            wide.place(item, 1, 12, 1);
            tall.place(item, 0, 1, 1);
            tall.place(item, 1, start, 4);
        }
        Check.due("columns", 51, () -> wide.tracks(0));
        Check.at("two fit ahead", wide, 1, 5, 12);
        Check.at("the third lies behind", wide, 2, 16, 12);
        Check.at("the last", wide, 10, 48, 12);
        Check.due("rows", 51, () -> tall.tracks(1));
        Check.at("two fit above", tall, 1, 1, 5);
        Check.at("the third lies below", tall, 2, 1, 16);
        Check.at("the last", tall, 10, 1, 48);
        Check.due("the last track has a size", 0, () -> tall.size(1, 51, 5));
        Check.thrown("none behind it", MISSING, () -> tall.size(1, 52, 5));
        Check.due("the last cell", 10, () -> tall.itemIn(1, 51));
        Check.thrown("none behind it", MISSING, () -> tall.itemIn(1, 52));
    }

    // Promise 15: "Throws IllegalArgumentException if there is no such axis"
    private static void tracksNeedsAnAxis() {
        for (int axis : NO_AXES) {
            Refusal.thrown("tracks of axis " + axis, REFUSED, grid -> grid.tracks(axis));
        }
    }

    // Promise 16: "Throws IndexOutOfBoundsException if there is no such item", "Throws
    // IllegalArgumentException if there is no such axis", in this order.
    private static void startOfNeedsAnItemAndAnAxis() {
        GridEngine grid = Refusal.fullGrid();
        Check.due("the first item", 1, () -> grid.startOf(0, 1));
        Check.due("the last item", 12, () -> grid.startOf(11, 1));
        Refusal.thrown("item 12", MISSING, Refusal::fullGrid, g -> g.startOf(12, 1));
        for (int item : NO_ITEMS) {
            Refusal.thrown("startOf item " + item, MISSING, g -> g.startOf(item, 0));
            Refusal.thrown("no axis either", MISSING, g -> g.startOf(item, 2));
        }
        for (int axis : NO_AXES) {
            Refusal.thrown("startOf on axis " + axis, REFUSED, g -> g.startOf(0, axis));
        }
    }

    // Promise 17: "column: the column, from 1", "Throws IndexOutOfBoundsException if the grid has
    // no such cell", "Throws NoSuchElementException if no item covers it"
    private static void itemInHasCellsFrom1() {
        GridEngine grid = Check.grid("1 1 1", "1 1");
        put(grid, 1, 1, 1, 1);
        put(grid, 3, 1, 2, 1);
        Check.due("the first cell", 0, () -> grid.itemIn(1, 1));
        Check.due("the last cell", 1, () -> grid.itemIn(3, 2));
        for (int[] cell : new int[][] {{2, 1}, {3, 1}, {1, 2}, {2, 2}}) {
            Check.thrown("an empty cell", NOTHING, () -> grid.itemIn(cell[0], cell[1]));
        }
        int least = Integer.MIN_VALUE;
        int most = Integer.MAX_VALUE;
        int[][] wrong = {{0, 1}, {1, 0}, {4, 1}, {1, 3}, {-1, 1}, {1, -1}, {4, 3}, {0, 0},
            {least, 1}, {most, 1}, {1, least}, {1, most}, {2, 3}, {3, 4}};
        for (int[] cell : wrong) {
            Check.thrown("no cell", MISSING, () -> grid.itemIn(cell[0], cell[1]));
            Refusal.thrown("no cell", MISSING, g -> g.itemIn(cell[0], cell[1]));
        }
        Refusal.thrown("an empty cell", NOTHING, g -> g.itemIn(2, 2));
        Check.thrown("columns without rows", MISSING, () -> Check.grid("1", "").itemIn(1, 1));
        Check.thrown("rows without columns", MISSING, () -> Check.grid("", "1").itemIn(1, 1));
    }

    // Promise 17: "Returns the highest item that covers a cell."
    private static void itemInTellsTheHighest() {
        GridEngine grid = new GridEngine();
        put(grid, 1, 2, 1, 2);
        put(grid, 2, 2, 2, 2);
        put(grid, 2, 1, 1, 1);
        int[][] rows = {{1, 1, 0}, {2, 1, 2}, {1, 2, 0}, {2, 2, 1}, {3, 2, 1}, {3, 3, 1}};
        for (int[] row : rows) {
            Check.due("cell " + row[0] + " " + row[1], row[2], () -> grid.itemIn(row[0], row[1]));
        }
        Check.thrown("beside the first", NOTHING, () -> grid.itemIn(3, 1));
        Check.thrown("below the first", NOTHING, () -> grid.itemIn(1, 3));
        grid.exchange(1, 2);
        Check.due("the higher one again", 2, () -> grid.itemIn(2, 2));
    }

    // Promise 18: "0: all cells, 1: those that no item covers, 2: those that more than one item
    // covers"
    private static void cellsOfEachKind() {
        GridEngine grid = Check.grid("1 1 1", "1 1");
        dueCells("no item", grid, 6, 6, 0);
        put(grid, 1, 2, 1, 1);
        dueCells("one item", grid, 6, 4, 0);
        put(grid, 2, 2, 1, 1);
        dueCells("one common cell", grid, 6, 3, 1);
        put(grid, 2, 1, 1, 1);
        dueCells("three items over one cell", grid, 6, 3, 1);
        put(grid, 3, 2, 2, 2);
        dueCells("beyond the explicit ones", grid, 12, 5, 1);
        dueCells("columns alone", Check.grid("1 1 1", ""), 0, 0, 0);
    }

    private static void dueCells(String what, GridEngine grid, int... want) {
        for (int kind = 0; kind < 3; kind++) {
            int k = kind;
            Check.due(what + ": cells " + k, want[k], () -> grid.cells(k));
        }
    }

    // Promise 18: "Throws IllegalArgumentException if what is out of range"
    private static void cellsOutOfRange() {
        for (int what : new int[] {-1, 3, Integer.MIN_VALUE, Integer.MAX_VALUE}) {
            Refusal.thrown("cells " + what, REFUSED, grid -> grid.cells(what));
        }
    }
}
