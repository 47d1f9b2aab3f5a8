import java.util.NoSuchElementException;

/**
 * The sentences of the document that name a boundary case of collapsing, filling, sizing, positions
 * and boxes (promises 19 to 26): each test quotes its sentence.
 */
public final class SizeBoundaryTests {
    private static final Class<IllegalArgumentException> REFUSED = IllegalArgumentException.class;
    private static final Class<IndexOutOfBoundsException> MISSING =
        IndexOutOfBoundsException.class;
    private static final Class<NoSuchElementException> NOTHING = NoSuchElementException.class;
    private static final int[] NO_AXES = {-1, 2, Integer.MIN_VALUE, Integer.MAX_VALUE};
    // The rich grid of the refusals has the items 0 and 1, 3 columns and 2 rows.
    private static final int[] NO_ITEMS = {-1, 2, 12, Integer.MIN_VALUE, Integer.MAX_VALUE};
    private static final int[] NO_TRACKS = {-1, 0, 4, 13, Integer.MIN_VALUE, Integer.MAX_VALUE};

    public static void main(String[] args) {
        collapsedIfNoItemCoversIt();
        collapsedTracksTakePartInNothing();
        guttersBetweenOpenTracksOnly();
        fillingGivesToTheLeastQuotient();
        fillingByWeights();
        filledTracksStopAtTheirBounds();
        restBehindAllBounds();
        boundsThatAreReachedAtTheBeginning();
        contributionsThatExceedTheirSpace();
        groupsInTheirOrder();
        copiesOfOneGroup();
        basesOfFixedMinima();
        basesByTheirMinima();
        basesOfNoTrackThatMayBeFilled();
        basesOfTheLastGroup();
        limitsOfFixedMaxima();
        limitsByTheirMaxima();
        limitsOfFittingTracks();
        limitsWithoutTheLastGroup();
        sizesWithoutAnAxisSizeAreLimits();
        growingByTheFreeSpace();
        activeTracksUpToTheirShare();
        sharesAreComputedAnew();
        sharesOfTheRemainders();
        leftoverBelow0();
        unitWithoutAnAxisSize();
        unitIsExactAndRoundedUp();
        unitOfItems();
        stretchingByTheFreeSpace();
        stretchingOfAutoMaximaOnly();
        sizeArguments();
        isCollapsedArguments();
        offsetsOfNoFreeSpace();
        offsetsOfOnePixel();
        offsetsOfNegativeSpace();
        offsetsRoundDown();
        offsetsOfOneTrack();
        offsetsOfNoAxisSize();
        offsetsCountOpenTracksOnly();
        positionsOfCollapsedTracks();
        positionArguments();
        totalOfEachStage();
        totalArguments();
        freeSpaceOfEachSign();
        freeArguments();
        stretchedBoxes();
        boxesBetweenTheContributions();
        boxesBeginByTheirAlignment();
        areasBetweenTheirTracks();
        boxArguments();
        unmetBelowTheContribution();
        unmetHasABitForEachItem();
        unmetArguments();
        itemUnderFirstAndLastCoordinates();
        itemUnderAnyInt();
        itemUnderTheHighest();
        Check.finish("SizeBoundaryTests");
    }

    /** Adds an item in the first row that spans columns from a start on. */
    private static GridEngine span(GridEngine grid, int start, int span, int small, int large) {
        int item = grid.addItem(small, large, 1, 1);
        grid.place(item, 0, start, span);
        grid.place(item, 1, 1, 1);
        return grid;
    }

    private static GridEngine columns(String text) {
        return Check.grid(text, "");
    }

    /** Columns with a size of their axis, or none. */
    private static GridEngine columns(String text, int size) {
        GridEngine grid = columns(text);
        grid.set(0, 0, size);
        return grid;
    }

    private static void sizes(String what, GridEngine grid, int stage, int... want) {
        Check.sizes(what, grid, 0, stage, want);
    }

    // ---- collapsing, told by promises 19, 20 and 22

    // Collapsing: "A track whose definition is collapsible is collapsed if no item covers it."
    private static void collapsedIfNoItemCoversIt() {
        GridEngine grid = columns("5? 5? 5? 5? 5 5?");
        boolean[] first = {true, true, true, true, false, true};
        dueCollapsed("no item", grid, first);
        span(grid, 2, 2, 1, 1);
        dueCollapsed("from the first to the last that it covers", grid,
            new boolean[] {true, false, false, true, false, true});
        grid.place(0, 0, 1, 1);
        dueCollapsed("the first", grid, new boolean[] {false, true, true, true, false, true});
        grid.place(0, 0, 6, 1);
        dueCollapsed("the last", grid, new boolean[] {true, true, true, true, false, false});
        grid.removeItem(0);
        dueCollapsed("no item again", grid, first);
        GridEngine implicit = columns("");
        Check.feed(implicit, "5?");
        implicit.readImplicit(0);
        span(implicit, 3, 1, 1, 1);
        dueCollapsed("implicit ones", implicit, new boolean[] {true, true, false});
    }

    private static void dueCollapsed(String what, GridEngine grid, boolean[] want) {
        Check.due(what + ": tracks", want.length, () -> grid.tracks(0));
        for (int i = 0; i < want.length; i++) {
            Check.due(what + ": track " + (i + 1), want[i], grid.isCollapsed(0, i + 1));
        }
    }

    // Collapsing: "A collapsed track has the size 0 and takes part in nothing that follows."
    // Promise 19: "0 of a collapsed track".
    private static void collapsedTracksTakePartInNothing() {
        String[] kinds = {"10?", "auto?", "min?", "max?", "fit(9)?", "1fr?", "minmax(8,90)?",
            "minmax(8,auto)?", "minmax(8,7fr)?"};
        for (String kind : kinds) {
            GridEngine grid = columns(kind + " 20");
            for (int size : new int[] {GridEngine.NONE, 50}) {
                grid.set(0, 0, size);
                for (int stage = 1; stage <= 5; stage++) {
                    sizes(kind + " with size " + size, grid, stage, 0, 20);
                }
            }
            Check.due(kind + ": all is free", 30, () -> grid.free(0));
        }
        GridEngine fractions = columns("3fr? 1fr", 100);
        sizes("the factor does not count", fractions, 4, 0, 100);
        GridEngine unit = columns("minmax(50,1fr)? 2fr");
        sizes("the unit neither", unit, 4, 0, 0);
        GridEngine stretched = columns("auto? auto", 100);
        sizes("nor does it stretch", stretched, 5, 0, 100);
        GridEngine grown = columns("minmax(0,50)? minmax(0,50)", 60);
        sizes("nor does it grow", grown, 3, 0, 50);
    }

    // Collapsing: "There is a gutter, of the size of the gap of the axis, between each two
    // consecutive tracks that are not collapsed."
    private static void guttersBetweenOpenTracksOnly() {
        String[] texts = {"", "10", "10 10", "10 10 10", "10 5? 10", "5? 10", "10 5?", "5? 5?",
            "5? 10 5? 5? 10 5?", "5?"};
        int[] totals = {0, 10, 27, 44, 27, 10, 10, 0, 27, 0};
        for (int i = 0; i < texts.length; i++) {
            int at = i;
            GridEngine grid = columns(texts[i]);
            grid.set(0, 1, 7);
            for (int stage = 1; stage <= 5; stage++) {
                int s = stage;
                Check.due("\"" + texts[i] + "\" in stage " + s, totals[at],
                    () -> grid.total(0, s));
            }
        }
        GridEngine grid = columns("10 5? 10");
        grid.set(0, 1, 99);
        Check.positions("one gutter at the greatest gap", grid, 0, 0, 109, 109);
        grid.set(0, 1, 0);
        Check.positions("no gap", grid, 0, 0, 10, 10);
    }

    // ---- filling, told by promise 19

    // Filling: "each one goes to the track with the least quotient of its pixels given in this
    // filling plus 1, divided by its weight; among several, to the lowest track. Weights are 1
    // where nothing else is said."
    private static void fillingGivesToTheLeastQuotient() {
        int[][] rows = {{0, 0, 0}, {1, 0, 0}, {1, 1, 0}, {1, 1, 1}, {2, 1, 1}, {2, 2, 1},
            {2, 2, 2}};
        for (int pixels = 0; pixels < rows.length; pixels++) {
            GridEngine grid = span(columns(""), 1, 3, pixels, pixels);
            sizes(pixels + " pixels", grid, 1, rows[pixels]);
        }
        GridEngine most = span(columns(""), 1, 4, 999, 999);
        sizes("999 pixels", most, 1, 250, 250, 250, 249);
        // Only what is given in this filling counts, not the size that a track has already.
        GridEngine uneven = span(span(columns(""), 1, 1, 10, 10), 1, 2, 14, 14);
        sizes("4 pixels beyond 10", uneven, 1, 12, 2);
    }

    // The same with weights that are not 1.
    private static void fillingByWeights() {
        int[][] rows = {{0, 0}, {0, 1}, {1, 1}, {1, 2}, {1, 3}, {2, 3}, {2, 4}};
        for (int pixels = 0; pixels < rows.length; pixels++) {
            GridEngine grid = span(columns("1fr 2fr"), 1, 2, pixels, pixels);
            sizes(pixels + " pixels by 1 and 2", grid, 1, rows[pixels]);
        }
        GridEngine equal = span(columns("3fr 3fr"), 1, 2, 3, 3);
        sizes("equal weights", equal, 1, 2, 1);
        int[][] apart = {{0, 98}, {1, 98}, {1, 99}, {1, 100}};
        for (int i = 0; i < apart.length; i++) {
            GridEngine grid = span(columns("1fr 99fr"), 1, 2, 98 + i, 98 + i);
            sizes((98 + i) + " pixels, equal quotients of 1 and 99 / 99", grid, 1, apart[i]);
        }
        GridEngine turned = span(columns("99fr 1fr"), 1, 2, 99, 99);
        sizes("99 goes first as the lower track", turned, 1, 99, 0);
    }

    // Filling: "A track that has reached its bound gets no more pixels, as long as others have
    // not".
    private static void filledTracksStopAtTheirBounds() {
        int[][] rows = {{2, 2}, {3, 2}, {3, 3}, {3, 4}, {3, 5}};
        for (int i = 0; i < rows.length; i++) {
            GridEngine grid = span(columns("minmax(auto,3) auto"), 1, 2, 4 + i, 4 + i);
            sizes((4 + i) + " pixels", grid, 1, rows[i]);
        }
        GridEngine none = span(columns("minmax(auto,0) auto"), 1, 2, 5, 5);
        sizes("a bound of 0", none, 1, 0, 5);
    }

    // Filling: "when all have reached their bounds, the rest of the pixels is lost or is given out
    // without bounds". Sizing 1: "The rest is given out without bounds." Sizing 2: "The rest is
    // lost." Details: "the rest without bounds goes on with the pixels given so far."
    private static void restBehindAllBounds() {
        int[][] rows = {{3, 2}, {3, 3}, {4, 3}, {4, 4}};
        for (int i = 0; i < rows.length; i++) {
            GridEngine both = columns("minmax(auto,3) minmax(auto,3)");
            sizes("base sizes", span(both, 1, 2, 5 + i, 5 + i), 1, rows[i]);
        }
        int[][] lost = {{3, 2}, {3, 3}, {3, 3}, {3, 3}};
        for (int i = 0; i < lost.length; i++) {
            GridEngine both = columns("fit(3) fit(3)");
            sizes("limits", span(both, 1, 2, 0, 5 + i), 2, lost[i]);
        }
        GridEngine goesOn = span(columns("minmax(auto,10) minmax(auto,6)"), 1, 2, 16, 16);
        sizes("both bounds", goesOn, 1, 10, 6);
        int[] pixels = {17, 20, 21, 22, 30};
        int[][] sizes = {{10, 7}, {10, 10}, {11, 10}, {11, 11}, {15, 15}};
        for (int i = 0; i < pixels.length; i++) {
            goesOn.contribute(0, 0, true, pixels[i]);
            goesOn.contribute(0, 0, false, pixels[i]);
            sizes("with the pixels given so far: " + pixels[i], goesOn, 1, sizes[i]);
        }
    }

    // Details: "a track that is above its bound at the beginning has reached it". Sizing 1: "The
    // bound of a track with a fixed maximum is this value, or its base size, if that is greater".
    private static void boundsThatAreReachedAtTheBeginning() {
        GridEngine above = columns("minmax(auto,4) minmax(auto,20)");
        span(span(above, 1, 1, 9, 9), 1, 2, 20, 20);
        sizes("a base size of 9 above 4", above, 1, 9, 11);
        GridEngine at = columns("minmax(auto,9) minmax(auto,20)");
        span(span(at, 1, 1, 9, 9), 1, 2, 20, 20);
        sizes("a base size of 9 at 9", at, 1, 9, 11);
        GridEngine below = columns("minmax(auto,10) minmax(auto,20)");
        span(span(below, 1, 1, 9, 9), 1, 2, 20, 20);
        sizes("a base size of 9 below 10", below, 1, 10, 10);
        GridEngine rest = columns("minmax(auto,4) minmax(auto,2)");
        span(span(rest, 1, 1, 9, 9), 1, 2, 14, 14);
        // Two pixels up to the bound of the second, so the other three go to the first.
        sizes("both have reached their bounds", rest, 1, 12, 2);
        rest.contribute(1, 0, true, 15);
        rest.contribute(1, 0, false, 15);
        sizes("the fourth one of the rest", rest, 1, 12, 3);
    }

    // ---- sizing: groups, told by promise 19

    // Sizing: "The space of an item is the sum of the sizes in question of the tracks that it
    // covers, and the gutters between these", "what its contribution exceeds its space by".
    private static void contributionsThatExceedTheirSpace() {
        int[][] rows = {{6, 0}, {7, 0}, {8, 1}};
        for (int[] row : rows) {
            GridEngine grid = span(columns("7 auto"), 1, 2, row[0], row[0]);
            sizes("no gap, " + row[0], grid, 1, 7, row[1]);
            grid.contribute(0, 0, true, row[0] + 3);
            grid.contribute(0, 0, false, row[0] + 3);
            grid.set(0, 1, 3);
            sizes("a gap of 3, " + (row[0] + 3), grid, 1, 7, row[1]);
        }
        GridEngine two = span(columns("7 7 auto"), 1, 3, 21, 21);
        two.set(0, 1, 3);
        sizes("two gutters", two, 1, 7, 7, 1);
        GridEngine single = span(columns(""), 1, 1, 5, 5);
        single.set(0, 1, 99);
        sizes("no gutter in one track", single, 1, 5);
    }

    // Sizing: "The groups are: the items that cover no flexible track, by their spans on the axis,
    // those with span 1 first; then all items that cover a flexible track, as one group." "Each
    // group is processed twice".
    private static void groupsInTheirOrder() {
        GridEngine grid = columns("");
        span(grid, 1, 4, 40, 40);
        span(grid, 1, 3, 24, 24);
        span(grid, 1, 2, 12, 12);
        span(grid, 1, 1, 4, 4);
        // 4; then 8 more into two: 8 4; then 12 more into three: 12 8 4; then 16 into four.
        sizes("spans 1 to 4 in their order", grid, 1, 16, 12, 8, 4);
        GridEngine last = columns("auto auto 1fr");
        span(last, 2, 2, 30, 30);
        span(last, 1, 2, 20, 20);
        sizes("the flexible track is the last", last, 1, 10, 10, 20);
        GridEngine one = columns("2fr 1fr");
        span(one, 1, 1, 10, 10);
        span(one, 1, 2, 12, 12);
        sizes("spans 1 and 2 in one group", one, 1, 10, 4);
        GridEngine large = columns("max auto");
        span(large, 1, 1, 0, 12);
        span(large, 1, 2, 20, 20);
        sizes("large ones of span 1 ahead of small ones of span 2", large, 1, 16, 4);
    }

    // Sizing: "filled into copies of the sizes as they were before the group; then each track gets
    // the greatest of the sizes that it has in these copies." Details: "Copies of sizes are those
    // before the group is processed for small, and again before it is processed for large
    // contributions."
    private static void copiesOfOneGroup() {
        GridEngine grid = columns("");
        span(grid, 1, 2, 20, 20);
        span(grid, 2, 2, 30, 30);
        sizes("the greatest of both", grid, 1, 10, 15, 15);
        grid.contribute(1, 0, false, 20);
        grid.contribute(1, 0, true, 20);
        sizes("equal ones", grid, 1, 10, 10, 10);
        GridEngine again = columns("max max");
        span(again, 1, 2, 10, 20);
        span(again, 1, 1, 0, 0);
        sizes("small 5 5, then 10 more into both", again, 1, 10, 10);
        GridEngine both = columns("max max max");
        span(both, 1, 2, 8, 8);
        span(both, 2, 2, 0, 10);
        // Small: 4 4 0. Large: the second exceeds 4 by 6, which goes into copies of these.
        sizes("copies before the large ones", both, 1, 4, 7, 3);
        GridEngine bounds = columns("minmax(auto,4) minmax(auto,4) auto");
        span(bounds, 1, 2, 20, 20);
        span(bounds, 2, 2, 20, 20);
        // The first makes 10 of the second track, but in the copy of the second its bound is 4.
        sizes("bounds before the group", bounds, 1, 10, 10, 16);
    }

    // ---- sizing 1: base sizes, told by promise 19

    // Sizing 1: "The base size of a track is the value of a fixed minimum, or 0."
    private static void basesOfFixedMinima() {
        GridEngine grid = columns("0 999 minmax(5,3) minmax(999,0) auto min max fit(9) 7fr");
        sizes("no items", grid, 1, 0, 999, 5, 999, 0, 0, 0, 0, 0);
    }

    // Sizing 1: "first its small contributions are filled into the base sizes of those covered
    // tracks whose minimum is not fixed, then its large contributions into those of the covered
    // tracks whose minimum is large."
    private static void basesByTheirMinima() {
        String[] texts = {"7", "minmax(7,auto)", "auto", "min", "max", "fit(2)", "minmax(auto,5)",
            "minmax(max,5)", "minmax(max,min)", "1fr", "minmax(max,1fr)", "minmax(7,1fr)"};
        int[] want = {7, 7, 10, 10, 30, 10, 10, 30, 30, 10, 30, 7};
        for (int i = 0; i < texts.length; i++) {
            sizes(texts[i], span(columns(texts[i]), 1, 1, 10, 30), 1, want[i]);
        }
        GridEngine pair = span(columns("max auto"), 1, 2, 10, 30);
        sizes("small into both, large into one", pair, 1, 25, 5);
    }

    // Sizing 1: "If no covered track may be filled, nothing happens for the item."
    private static void basesOfNoTrackThatMayBeFilled() {
        GridEngine grid = columns("7 minmax(8,auto) auto");
        span(grid, 1, 2, 500, 999);
        span(grid, 2, 2, 14, 14);
        sizes("fixed minima", grid, 1, 7, 8, 6);
        GridEngine small = span(columns("min min"), 1, 2, 0, 999);
        sizes("no large minimum", small, 1, 0, 0);
    }

    // Sizing 1: "In the last group only flexible tracks are filled, with their factors as
    // weights." Details: "In the last group only those flexible tracks are filled whose minimum is
    // asked for."
    private static void basesOfTheLastGroup() {
        GridEngine grid = span(columns("auto 2fr 1fr max"), 1, 4, 9, 90);
        sizes("only flexible ones", grid, 1, 0, 6, 3, 0);
        GridEngine fixed = span(columns("minmax(5,1fr) 1fr"), 1, 2, 20, 20);
        sizes("not a fixed minimum", fixed, 1, 5, 15);
        GridEngine large = span(columns("minmax(max,1fr) 1fr"), 1, 2, 10, 30);
        sizes("large ones into a large minimum", large, 1, 25, 5);
        GridEngine none = span(columns("minmax(5,1fr) auto"), 1, 2, 99, 99);
        sizes("none is asked for", none, 1, 5, 0);
        GridEngine far = span(columns("auto 1fr"), 1, 1, 8, 8);
        sizes("an item beside the flexible track", far, 1, 8, 0);
    }

    // ---- sizing 2: limits, told by promise 19

    // Sizing 2: "The limit of a track is its base size, or the value of a fixed maximum, if that is
    // greater."
    private static void limitsOfFixedMaxima() {
        GridEngine grid = columns("minmax(5,4) minmax(5,5) minmax(5,6) minmax(0,999) 7 1fr auto");
        sizes("no items", grid, 2, 5, 5, 6, 999, 7, 0, 0);
        GridEngine grown = span(columns("minmax(auto,9)"), 1, 1, 10, 50);
        sizes("a base size above it", grown, 2, 10);
        grown.contribute(0, 0, false, 9);
        sizes("a base size at it", grown, 2, 9);
        grown.contribute(0, 0, false, 8);
        sizes("a base size below it", grown, 2, 9);
    }

    // Sizing 2: "first its small contributions are filled into the limits of those covered tracks
    // whose maximum is neither fixed nor flexible, then its large contributions into those of the
    // covered tracks whose maximum is large, auto or fitting."
    private static void limitsByTheirMaxima() {
        String[] texts = {"minmax(0,5)", "minmax(0,min)", "minmax(0,max)", "minmax(0,auto)",
            "minmax(0,1fr)", "auto", "min", "max", "fit(999)", "1fr", "minmax(40,auto)"};
        int[] want = {5, 10, 30, 30, 0, 30, 10, 30, 30, 10, 40};
        for (int i = 0; i < texts.length; i++) {
            sizes(texts[i], span(columns(texts[i]), 1, 1, 10, 30), 2, want[i]);
        }
        GridEngine pair = span(columns("minmax(0,min) minmax(0,max)"), 1, 2, 10, 30);
        sizes("small into both, large into one", pair, 2, 5, 25);
    }

    // Sizing 2: "The bound of a fitting track is its fitting limit, or its base size, if that is
    // greater; other tracks have no bound. The rest is lost."
    private static void limitsOfFittingTracks() {
        String[] texts = {"fit(0)", "fit(9)", "fit(10)", "fit(11)", "fit(29)", "fit(30)", "fit(31)"};
        int[] want = {10, 10, 10, 11, 29, 30, 30};
        for (int i = 0; i < texts.length; i++) {
            sizes(texts[i], span(columns(texts[i]), 1, 1, 10, 30), 2, want[i]);
        }
        GridEngine pair = span(columns("fit(8) auto"), 1, 2, 0, 30);
        sizes("another one has no bound", pair, 2, 8, 22);
        GridEngine fixed = span(columns("fit(8) minmax(0,3)"), 1, 2, 0, 30);
        sizes("the rest is lost", fixed, 2, 8, 3);
    }

    // Sizing 2: "Each group but the last one is processed twice".
    private static void limitsWithoutTheLastGroup() {
        GridEngine grid = span(columns("auto 1fr"), 1, 2, 6, 60);
        sizes("an item over a flexible track", grid, 2, 0, 6);
        grid.place(0, 0, 1, 1);
        sizes("an item beside it", grid, 2, 60, 0);
    }

    // ---- sizing 3 to 5, told by promise 19

    // Sizing 3: "If the axis has none, the size of each track is its limit."
    private static void sizesWithoutAnAxisSizeAreLimits() {
        GridEngine grid = span(columns("auto minmax(2,50) fit(7)"), 1, 1, 5, 30);
        sizes("limits", grid, 3, 30, 50, 0);
        grid.set(0, 0, 0);
        sizes("the size 0 is not none", grid, 3, 5, 2, 0);
        grid.set(0, 0, GridEngine.NONE);
        sizes("limits again", grid, 3, 30, 50, 0);
    }

    // Sizing 3: "the free space, which is the size of the axis minus all base sizes and gutters, is
    // filled into the base sizes, if it is greater than 0, with the limits as bounds; the rest is
    // lost."
    private static void growingByTheFreeSpace() {
        GridEngine grid = columns("auto");
        span(grid, 1, 1, 5, 30);
        int[][] rows = {{0, 5}, {4, 5}, {5, 5}, {6, 6}, {29, 29}, {30, 30}, {31, 30}, {9999, 30}};
        for (int[] row : rows) {
            grid.set(0, 0, row[0]);
            sizes("size " + row[0], grid, 3, row[1]);
        }
        GridEngine pair = columns("auto minmax(3,9)");
        span(pair, 1, 1, 5, 30);
        pair.set(0, 1, 4);
        int[][] pairs = {{12, 5, 3}, {13, 6, 3}, {14, 6, 4}, {24, 11, 9}, {25, 12, 9}, {43, 30, 9},
            {44, 30, 9}};
        for (int[] row : pairs) {
            pair.set(0, 0, row[0]);
            sizes("two and a gutter, size " + row[0], pair, 3, row[1], row[2]);
        }
    }

    // Sizing 4: "As long as there is an active track whose size is greater than leftover * its
    // factor / the sum of the factors of all active tracks, as an exact fraction".
    private static void activeTracksUpToTheirShare() {
        int[][] rows = {{49, 50, 50}, {50, 50, 50}, {51, 51, 49}, {100, 100, 0}, {101, 101, 0}};
        for (int[] row : rows) {
            GridEngine grid = span(columns("1fr 1fr", 100), 1, 1, row[0], row[0]);
            sizes("base size " + row[0], grid, 4, row[1], row[2]);
        }
        GridEngine third = span(columns("2fr 1fr", 100), 2, 1, 33, 33);
        sizes("33 is not greater than 33 1/3", third, 4, 67, 33);
        third.contribute(0, 0, true, 34);
        third.contribute(0, 0, false, 34);
        sizes("34 is greater than 33 1/3", third, 4, 66, 34);
        // 67 is greater than 66 2/3, though the remainder would give it 67 as well.
        GridEngine exact = span(columns("1fr 1fr 1fr", 200), 1, 1, 67, 67);
        sizes("67 stops at 66 2/3", exact, 4, 67, 67, 66);
        GridEngine other = span(columns("1fr 1fr 1fr", 200), 3, 1, 67, 67);
        sizes("67 stops in the last track", other, 4, 67, 66, 67);
    }

    // Sizing 4: "all such tracks stop being active, and the leftover is computed anew."
    private static void sharesAreComputedAnew() {
        GridEngine grid = columns("1fr 1fr 1fr", 90);
        span(grid, 1, 1, 40, 40);
        span(grid, 2, 1, 25, 25);
        sizes("25 is a half of what is left", grid, 4, 40, 25, 25);
        grid.contribute(1, 0, true, 26);
        grid.contribute(1, 0, false, 26);
        sizes("26 stops in the second turn", grid, 4, 40, 26, 24);
        GridEngine together = columns("1fr 1fr 2fr", 40);
        span(together, 1, 1, 11, 11);
        span(together, 2, 1, 20, 20);
        // 11 and 20 stop together; 9 are left.
        sizes("both stop together", together, 4, 11, 20, 9);
        GridEngine all = columns("1fr 1fr", 10);
        span(all, 1, 1, 6, 6);
        span(all, 2, 1, 5, 5);
        sizes("all stop", all, 4, 6, 5);
        GridEngine none = columns("10 auto", 40);
        sizes("there is none", none, 4, 10, 0);
    }

    // Sizing 4: "rounded down, and the pixels that are left are given out, one to each track, to
    // those with the greatest remainders of these divisions, the lower tracks first among equal
    // ones."
    private static void sharesOfTheRemainders() {
        int[][] rows = {{99, 33, 33, 33}, {100, 34, 33, 33}, {101, 34, 34, 33}, {0, 0, 0, 0},
            {1, 1, 0, 0}, {2, 1, 1, 0}, {3, 1, 1, 1}, {9999, 3333, 3333, 3333}};
        for (int[] row : rows) {
            sizes("equal remainders of " + row[0], columns("1fr 1fr 1fr", row[0]), 4,
                row[1], row[2], row[3]);
        }
        // 10 / 6, 20 / 6, 30 / 6: the remainders 4, 2 and 0.
        sizes("the greatest one first", columns("1fr 2fr 3fr", 10), 4, 2, 3, 5);
        // 11 / 6, 22 / 6, 33 / 6: the remainders 5, 4 and 3, and two pixels.
        sizes("the two greatest ones", columns("1fr 2fr 3fr", 11), 4, 2, 4, 5);
        // 11 * 3 / 6, 11 * 2 / 6, 11 / 6: the same the other way round.
        sizes("the lower track is not ahead", columns("3fr 2fr 1fr", 11), 4, 5, 4, 2);
        sizes("the greatest factors", columns("99fr 99fr", 9999), 4, 5000, 4999);
        sizes("1 and 99", columns("1fr 99fr", 50), 4, 1, 49);
        sizes("1 and 99", columns("1fr 99fr", 49), 4, 0, 49);
        // Remainders of earlier tracks, 2 / 7 each, are no longer there.
        GridEngine again = columns("1fr 1fr 1fr 1fr 1fr 1fr 1fr", 9);
        sizes("seven tracks", again, 4, 2, 2, 1, 1, 1, 1, 1);
        Check.feed(again, "1fr 1fr 0 0 0 0 0");
        again.readTracks(0);
        sizes("two of them", again, 4, 5, 4, 0, 0, 0, 0, 0);
    }

    // Details: "If the leftover of fractions is below 0, all flexible tracks stop being active."
    private static void leftoverBelow0() {
        int[][] rows = {{0, 0}, {9, 0}, {10, 0}, {11, 1}, {12, 2}};
        for (int[] row : rows) {
            sizes("size " + row[0], columns("10 1fr", row[0]), 4, 10, row[1]);
        }
        GridEngine large = span(columns("10 1fr", 9), 2, 1, 4, 4);
        sizes("its size stays", large, 4, 10, 4);
        GridEngine gaps = columns("1fr 1fr 1fr", 9);
        gaps.set(0, 1, 5);
        sizes("gutters of 10 in 9", gaps, 4, 0, 0, 0);
        gaps.set(0, 0, 10);
        sizes("gutters of 10 in 10", gaps, 4, 0, 0, 0);
        gaps.set(0, 0, 11);
        sizes("gutters of 10 in 11", gaps, 4, 1, 0, 0);
        GridEngine two = span(columns("1fr 1fr", 100), 1, 1, 120, 120);
        sizes("below 0 in the second turn", two, 4, 120, 0);
    }

    // Sizing 4: "If the axis has no size, the unit is the greatest of the quotients of the size and
    // the factor of each flexible track", "Each flexible track gets its factor times the unit,
    // rounded up, where its size is less than that."
    private static void unitWithoutAnAxisSize() {
        sizes("no flexible track", columns("10 auto"), 4, 10, 0);
        sizes("a unit of 0", columns("1fr 2fr"), 4, 0, 0);
        sizes("the greatest quotient", columns("minmax(21,1fr) minmax(10,2fr)"), 4, 21, 42);
        sizes("the other one", columns("minmax(4,1fr) minmax(10,2fr)"), 4, 5, 10);
        sizes("equal quotients", columns("minmax(5,1fr) minmax(10,2fr)"), 4, 5, 10);
        sizes("ahead of the fractions", columns("minmax(4,1fr) minmax(10,2fr)"), 3, 4, 10);
        sizes("99 times 999", columns("minmax(999,1fr) 99fr"), 4, 999, 98901);
        GridEngine both = Check.grid("minmax(21,1fr) 1fr", "minmax(7,1fr) 1fr");
        sizes("columns", both, 4, 21, 21);
        Check.sizes("rows have a unit of their own", both, 1, 4, 7, 7);
        Check.feed(both, "minmax(3,1fr) 1fr");
        both.readTracks(0);
        sizes("and so have columns that are read anew", both, 4, 3, 3);
    }

    // Details: "Without a size, the unit is an exact fraction." Sizing 4: "rounded up".
    private static void unitIsExactAndRoundedUp() {
        sizes("21 / 2", columns("minmax(21,2fr) 1fr"), 4, 21, 11);
        sizes("20 / 2", columns("minmax(20,2fr) 1fr"), 4, 20, 10);
        sizes("10 / 3 times 2", columns("2fr minmax(10,3fr)"), 4, 7, 10);
        sizes("10 / 3 times 3 is 10", columns("minmax(10,3fr) 3fr 6fr"), 4, 10, 10, 20);
        sizes("1 / 99", columns("minmax(1,99fr) 1fr 98fr"), 4, 1, 1, 1);
        // 7 / 3 is greater than 9 / 4, which is greater than 2.
        sizes("near quotients", columns("minmax(7,3fr) minmax(9,4fr) 12fr"), 4, 7, 10, 28);
    }

    // Sizing 4: "and of the quotients, for each item of the last group, of the excess of its large
    // contribution over the sizes of the covered tracks that are not flexible and the gutters
    // between its tracks, and the sum of the factors of its flexible tracks."
    private static void unitOfItems() {
        int[][] rows = {{12, 0}, {13, 0}, {14, 0}, {15, 1}, {16, 2}};
        for (int[] row : rows) {
            GridEngine grid = span(columns("10 1fr"), 1, 2, 0, row[0]);
            grid.set(0, 1, 4);
            sizes("large " + row[0], grid, 4, 10, row[1]);
        }
        GridEngine sum = span(columns("1fr 2fr 3fr"), 1, 2, 0, 31);
        sizes("31 / 3, for all flexible tracks", sum, 4, 11, 21, 31);
        GridEngine least = span(columns("minmax(3,1fr)"), 1, 1, 0, 3);
        sizes("an item as large as the size", least, 4, 3);
        least.contribute(0, 0, true, 4);
        sizes("an item larger by 1", least, 4, 4);
        GridEngine beside = span(columns("auto 1fr"), 1, 1, 0, 50);
        sizes("an item of another group", beside, 4, 50, 0);
    }

    // Sizing 5: "If the axis has a size and its content alignment is 0, and if the free space [..]
    // is greater than 0, it is filled into the tracks whose maximum is auto, if there are any."
    private static void stretchingByTheFreeSpace() {
        int[][] rows = {{0, 0}, {9, 0}, {10, 0}, {11, 1}, {12, 2}, {9999, 9989}};
        for (int[] row : rows) {
            GridEngine grid = columns("10 auto", row[0]);
            sizes("size " + row[0], grid, 5, 10, row[1]);
            sizes("ahead of it", grid, 4, 10, 0);
            for (int content = 1; content <= 6; content++) {
                grid.set(0, 2, content);
                sizes("content alignment " + content, grid, 5, 10, 0);
            }
        }
        GridEngine noSize = columns("10 auto");
        sizes("no size", noSize, 5, 10, 0);
        GridEngine pair = columns("auto auto", 10);
        pair.set(0, 1, 3);
        sizes("a gutter, and the lower track first", pair, 5, 4, 3);
    }

    // The same: "the tracks whose maximum is auto, if there are any."
    private static void stretchingOfAutoMaximaOnly() {
        GridEngine grid = columns("auto minmax(5,auto) minmax(max,auto) min max fit(9) 5", 40);
        sizes("auto maxima", grid, 5, 10, 15, 10, 0, 0, 0, 5);
        GridEngine none = columns("min max fit(9) 5", 40);
        sizes("there are none", none, 5, 0, 0, 0, 5);
        Check.due("it stays free", 35, () -> none.free(0));
        GridEngine flexible = columns("auto 1fr", 40);
        sizes("nothing is left", flexible, 5, 0, 40);
    }

    // ---- promises 19 and 20

    // Promise 19: "Throws IllegalArgumentException if there is no such axis or stage", "Throws
    // IndexOutOfBoundsException if the grid has no such track", in this order.
    private static void sizeArguments() {
        GridEngine grid = columns("10 20 30");
        for (int stage = 1; stage <= 5; stage++) {
            int s = stage;
            Check.due("the first track", 10, () -> grid.size(0, 1, s));
            Check.due("the last track", 30, () -> grid.size(0, 3, s));
            for (int track : NO_TRACKS) {
                Refusal.thrown("size of track " + track, MISSING, g -> g.size(0, track, s));
            }
            Check.thrown("no row", MISSING, () -> grid.size(1, 1, s));
        }
        for (int stage : new int[] {-1, 0, 6, Integer.MIN_VALUE, Integer.MAX_VALUE}) {
            Refusal.thrown("stage " + stage, REFUSED, g -> g.size(0, 1, stage));
            Refusal.thrown("no track either", REFUSED, g -> g.size(0, 0, stage));
        }
        for (int axis : NO_AXES) {
            Refusal.thrown("size on axis " + axis, REFUSED, g -> g.size(axis, 1, 1));
            Refusal.thrown("no track either", REFUSED, g -> g.size(axis, 99, 1));
        }
    }

    // Promise 20: "Throws IllegalArgumentException if there is no such axis", "Throws
    // IndexOutOfBoundsException if the grid has no such track", in this order.
    private static void isCollapsedArguments() {
        for (int track : NO_TRACKS) {
            Refusal.thrown("isCollapsed of track " + track, MISSING,
                g -> g.isCollapsed(0, track) ? 1 : 0);
        }
        Refusal.thrown("isCollapsed of row 3", MISSING, g -> g.isCollapsed(1, 3) ? 1 : 0);
        for (int axis : NO_AXES) {
            Refusal.thrown("isCollapsed on axis " + axis, REFUSED,
                g -> g.isCollapsed(axis, 1) ? 1 : 0);
            Refusal.thrown("no track either", REFUSED, g -> g.isCollapsed(axis, 0) ? 1 : 0);
        }
        GridEngine grid = columns("5? 5 5?");
        Check.due("the first track", true, grid.isCollapsed(0, 1));
        Check.due("the second track", false, grid.isCollapsed(0, 2));
        Check.due("the last track", true, grid.isCollapsed(0, 3));
    }

    // ---- positions, told by promise 21

    /** Positions for each content alignment from 0 to 6. */
    private static void positions(String what, GridEngine grid, int[]... want) {
        for (int content = 0; content <= 6; content++) {
            grid.set(0, 2, content);
            Check.positions(what + ", content alignment " + content, grid, 0, want[content]);
        }
    }

    private static int[] at(int... positions) {
        return positions;
    }

    // Positions: "With the free space F that remains after stretching", here F = 0.
    private static void offsetsOfNoFreeSpace() {
        int[] same = at(0, 10);
        positions("F = 0", columns("10 10", 20), same, same, same, same, same, same, same);
        GridEngine stretched = columns("auto auto", 20);
        Check.positions("nothing remains after stretching", stretched, 0, 0, 10);
        Check.due("F", 0, () -> stretched.free(0));
    }

    // Positions: "0 for stretch and start; F for end; F / 2 for center; F * i / (n - 1) for space
    // between [..]; F * (2 * i + 1) / (2 * n) for space around; F * (i + 1) / (n + 1) for space
    // evenly; all rounded down". Here F is 1, 2, 3 and 4.
    private static void offsetsOfOnePixel() {
        positions("F = 1", columns("10 10", 21), at(0, 10), at(0, 10), at(1, 11), at(0, 10),
            at(0, 11), at(0, 10), at(0, 10));
        positions("F = 2", columns("10 10", 22), at(0, 10), at(0, 10), at(2, 12), at(1, 11),
            at(0, 12), at(0, 11), at(0, 11));
        positions("F = 3", columns("10 10", 23), at(0, 10), at(0, 10), at(3, 13), at(1, 11),
            at(0, 13), at(0, 12), at(1, 12));
        positions("F = 4", columns("10 10", 24), at(0, 10), at(0, 10), at(4, 14), at(2, 12),
            at(0, 14), at(1, 13), at(1, 12));
    }

    // Positions: "If F is less than 0, space between is the same as start, and space around and
    // space evenly are the same as center.", "rounded down, toward negative infinity".
    private static void offsetsOfNegativeSpace() {
        positions("F = -1", columns("10 10", 19), at(0, 10), at(0, 10), at(-1, 9), at(-1, 9),
            at(0, 10), at(-1, 9), at(-1, 9));
        positions("F = -2", columns("10 10", 18), at(0, 10), at(0, 10), at(-2, 8), at(-1, 9),
            at(0, 10), at(-1, 9), at(-1, 9));
        positions("F = -3", columns("10 10", 17), at(0, 10), at(0, 10), at(-3, 7), at(-2, 8),
            at(0, 10), at(-2, 8), at(-2, 8));
        positions("F = -20", columns("10 10", 0), at(0, 10), at(0, 10), at(-20, -10),
            at(-10, 0), at(0, 10), at(-10, 0), at(-10, 0));
    }

    // Positions: "all rounded down", with three tracks.
    private static void offsetsRoundDown() {
        positions("F = 5", columns("10 10 10", 35), at(0, 10, 20), at(0, 10, 20), at(5, 15, 25),
            at(2, 12, 22), at(0, 12, 25), at(0, 12, 24), at(1, 12, 23));
        positions("F = 7", columns("10 10 10", 37), at(0, 10, 20), at(0, 10, 20), at(7, 17, 27),
            at(3, 13, 23), at(0, 13, 27), at(1, 13, 25), at(1, 13, 25));
    }

    // Positions: "and 0 for n = 1".
    private static void offsetsOfOneTrack() {
        positions("F = 21", columns("10", 31), at(0), at(0), at(21), at(10), at(0), at(10), at(10));
        positions("F = -1", columns("10", 9), at(0), at(0), at(-1), at(-1), at(0), at(-1), at(-1));
        positions("one of two", columns("5? 10", 31), at(0, 0), at(0, 0), at(21, 21), at(10, 10),
            at(0, 0), at(10, 10), at(10, 10));
    }

    // Positions: "(0 if the axis has no size)".
    private static void offsetsOfNoAxisSize() {
        int[] same = at(0, 10);
        positions("no size", columns("10 10"), same, same, same, same, same, same, same);
        Check.due("F", 0, () -> columns("10 10").free(0));
    }

    // Positions: "and n tracks that are not collapsed, the offset of the i-th of them, from 0".
    private static void offsetsCountOpenTracksOnly() {
        positions("one is collapsed", columns("5? 10 5? 10", 30), at(0, 0, 10, 10),
            at(0, 0, 10, 10), at(10, 10, 20, 20), at(5, 5, 15, 15), at(0, 0, 20, 20),
            at(2, 2, 17, 17), at(3, 3, 16, 16));
    }

    // Positions: "A collapsed track has the position at which the next track that is not collapsed
    // begins, or, without such a track, the one at which the last one ends, or 0 if all are
    // collapsed."
    private static void positionsOfCollapsedTracks() {
        GridEngine grid = columns("5? 5? 10 5? 5? 20 5? 5?", 60);
        grid.set(0, 1, 6);
        // F = 60 - 30 - 6 = 24
        positions("each place", grid,
            at(0, 0, 0, 16, 16, 16, 36, 36), at(0, 0, 0, 16, 16, 16, 36, 36),
            at(24, 24, 24, 40, 40, 40, 60, 60), at(12, 12, 12, 28, 28, 28, 48, 48),
            at(0, 0, 0, 40, 40, 40, 60, 60), at(6, 6, 6, 34, 34, 34, 54, 54),
            at(8, 8, 8, 32, 32, 32, 52, 52));
        GridEngine all = columns("5? 5?", 50);
        all.set(0, 1, 9);
        int[] zero = at(0, 0);
        positions("all are collapsed", all, zero, zero, zero, zero, zero, zero, zero);
        Check.due("F of no tracks", 50, () -> all.free(0));
    }

    // Promise 21: "Throws IllegalArgumentException if there is no such axis", "Throws
    // IndexOutOfBoundsException if the grid has no such track", in this order.
    private static void positionArguments() {
        GridEngine grid = columns("10 20 30");
        Check.due("the first track", 0, () -> grid.position(0, 1));
        Check.due("the last track", 30, () -> grid.position(0, 3));
        for (int track : NO_TRACKS) {
            Refusal.thrown("position of track " + track, MISSING, g -> g.position(0, track));
        }
        Refusal.thrown("position of row 3", MISSING, g -> g.position(1, 3));
        for (int axis : NO_AXES) {
            Refusal.thrown("position on axis " + axis, REFUSED, g -> g.position(axis, 1));
            Refusal.thrown("no track either", REFUSED, g -> g.position(axis, 0));
        }
    }

    // ---- promises 22 and 23

    // Promise 22: "Returns the sum of the sizes of all tracks and gutters of an axis."
    private static void totalOfEachStage() {
        GridEngine grid = columns("minmax(5,9) auto 1fr 5?", 60);
        grid.set(0, 1, 4);
        int[] want = {0, 13, 17, 17, 60, 60};
        GridEngine stretched = columns("minmax(5,9) auto", 60);
        int[] other = {0, 5, 9, 9, 9, 60};
        for (int stage = 1; stage <= 5; stage++) {
            int s = stage;
            Check.due("stage " + s, want[s], () -> grid.total(0, s));
            Check.due("stretched, stage " + s, other[s], () -> stretched.total(0, s));
            Check.due("no tracks", 0, () -> grid.total(1, s));
        }
    }

    // Promise 22: "Throws IllegalArgumentException if there is no such axis or stage"
    private static void totalArguments() {
        for (int stage : new int[] {-1, 0, 6, Integer.MIN_VALUE, Integer.MAX_VALUE}) {
            Refusal.thrown("total of stage " + stage, REFUSED, g -> g.total(0, stage));
        }
        for (int axis : NO_AXES) {
            Refusal.thrown("total on axis " + axis, REFUSED, g -> g.total(axis, 1));
        }
    }

    // Promise 23: "Returns the free space, which may be negative; 0 if the axis has no size."
    private static void freeSpaceOfEachSign() {
        GridEngine grid = columns("10 10");
        Check.due("no size", 0, () -> grid.free(0));
        grid.set(0, 1, 3);
        int[][] rows = {{0, -23}, {22, -1}, {23, 0}, {24, 1}, {9999, 9976}};
        for (int[] row : rows) {
            grid.set(0, 0, row[0]);
            Check.due("size " + row[0], row[1], () -> grid.free(0));
        }
        grid.set(0, 0, GridEngine.NONE);
        Check.due("no size again", 0, () -> grid.free(0));
        GridEngine empty = new GridEngine();
        empty.set(1, 0, 7);
        Check.due("no tracks", 7, () -> empty.free(1));
        Check.due("after stretching", 0, () -> columns("auto", 50).free(0));
    }

    // Promise 23: "Throws IllegalArgumentException if there is no such axis"
    private static void freeArguments() {
        for (int axis : NO_AXES) {
            Refusal.thrown("free on axis " + axis, REFUSED, g -> g.free(axis));
        }
    }

    // ---- boxes, told by promise 24

    private static void box(String what, GridEngine grid, int item, int... want) {
        for (int part = 0; part < want.length; part++) {
            int p = part;
            Check.due(what + ": what " + p, want[p], () -> grid.box(item, 0, p));
        }
    }

    // Boxes: "With alignment stretch its box is its area."
    private static void stretchedBoxes() {
        int[][] rows = {{0, 0}, {0, 49}, {50, 50}, {51, 60}, {999, 999}};
        for (int[] row : rows) {
            GridEngine grid = span(columns("5 50"), 2, 1, row[0], row[1]);
            box("contributions " + row[0] + " to " + row[1], grid, 0, 5, 50, 5, 50);
        }
    }

    // Boxes: "Otherwise the size of the box is the size of the area, but not more than the large
    // and not less than the small contribution".
    private static void boxesBetweenTheContributions() {
        int[][] rows = {{0, 0, 0}, {0, 49, 49}, {0, 50, 50}, {0, 51, 50}, {49, 60, 50},
            {50, 60, 50}, {51, 60, 51}, {49, 49, 49}, {51, 51, 51}, {999, 999, 999}};
        for (int[] row : rows) {
            GridEngine grid = span(columns("5 50"), 2, 1, row[0], row[1]);
            for (int alignment = 1; alignment <= 3; alignment++) {
                grid.align(0, 0, alignment);
                Check.due("contributions " + row[0] + " to " + row[1], row[2],
                    () -> grid.box(0, 0, 1));
                Check.due("the area", 50, () -> grid.box(0, 0, 3));
            }
        }
    }

    // Boxes: "the box begins where the area begins for start, ends where it ends for end, and for
    // center begins at the begin of the area plus half of the difference of both sizes, rounded
    // down, toward negative infinity."
    private static void boxesBeginByTheirAlignment() {
        // The size of the box, then its begin for start, end and center.
        int[][] rows = {{0, 5, 55, 30}, {19, 5, 36, 20}, {20, 5, 35, 20}, {49, 5, 6, 5},
            {50, 5, 5, 5}, {51, 5, 4, 4}, {52, 5, 3, 4}, {53, 5, 2, 3}, {999, 5, -944, -470}};
        for (int[] row : rows) {
            GridEngine grid = span(columns("5 50"), 2, 1, row[0], row[0]);
            for (int alignment = 1; alignment <= 3; alignment++) {
                grid.align(0, 0, alignment);
                box("size " + row[0] + ", alignment " + alignment, grid, 0,
                    row[alignment], row[0], 5, 50);
            }
        }
    }

    // Boxes: "The area of an item on an axis leads from the position of the first track that it
    // covers to the end of the last one."
    private static void areasBetweenTheirTracks() {
        GridEngine grid = columns("10 20 30", 100);
        grid.set(0, 1, 5);
        grid.set(0, 2, 4);
        // F = 30: the positions are 0, 30 and 70.
        span(grid, 1, 1, 0, 0);
        span(grid, 1, 2, 0, 0);
        span(grid, 2, 2, 0, 0);
        span(grid, 1, 3, 0, 0);
        Check.positions("space between", grid, 0, 0, 30, 70);
        box("one track", grid, 0, 0, 10, 0, 10);
        box("the first two", grid, 1, 0, 50, 0, 50);
        box("the last two", grid, 2, 30, 70, 30, 70);
        box("all", grid, 3, 0, 100, 0, 100);
    }

    // Promise 24: "Throws IndexOutOfBoundsException if there is no such item", "Throws
    // IllegalArgumentException if there is no such axis, or what is out of range", in this order.
    private static void boxArguments() {
        for (int item : NO_ITEMS) {
            Refusal.thrown("box of item " + item, MISSING, g -> g.box(item, 0, 0));
            Refusal.thrown("all is wrong", MISSING, g -> g.box(item, 2, 4));
        }
        Refusal.thrown("box of item 12", MISSING, Refusal::fullGrid, g -> g.box(12, 0, 0));
        Check.due("box of item 11", 0, () -> Refusal.fullGrid().box(11, 0, 0));
        for (int axis : NO_AXES) {
            Refusal.thrown("box on axis " + axis, REFUSED, g -> g.box(0, axis, 0));
        }
        for (int what : new int[] {-1, 4, Integer.MIN_VALUE, Integer.MAX_VALUE}) {
            Refusal.thrown("what " + what, REFUSED, g -> g.box(0, 0, what));
        }
    }

    // ---- promises 25 and 26

    // Promise 25: "Returns the items whose area on an axis is smaller than a contribution."
    private static void unmetBelowTheContribution() {
        int[][] rows = {{9, 0}, {10, 0}, {11, 1}};
        for (int[] row : rows) {
            GridEngine grid = span(columns("10"), 1, 1, row[0], row[0]);
            Check.due("small " + row[0], row[1], () -> grid.unmet(0, false));
            Check.due("large " + row[0], row[1], () -> grid.unmet(0, true));
            grid.contribute(0, 0, true, 50);
            Check.due("small " + row[0], row[1], () -> grid.unmet(0, false));
            Check.due("large 50", 1, () -> grid.unmet(0, true));
            // The area counts, not the box, which is never below the small contribution.
            grid.align(0, 0, 1);
            Check.due("aligned, small " + row[0], row[1], () -> grid.unmet(0, false));
            Check.due("the other axis", 0, () -> grid.unmet(1, true));
        }
        GridEngine gutter = span(columns("10 10"), 1, 2, 23, 23);
        gutter.set(0, 1, 3);
        Check.due("the gutter is in the area", 0, () -> gutter.unmet(0, false));
        gutter.set(0, 1, 2);
        Check.due("a gutter less by 1", 1, () -> gutter.unmet(0, false));
    }

    // Promise 25: "Returns the set of items, bit i for item i."
    private static void unmetHasABitForEachItem() {
        GridEngine grid = columns("10");
        for (int item = 0; item < 12; item++) {
            span(grid, 1, 1, 0, 11);
        }
        Check.due("all large ones", 4095, () -> grid.unmet(0, true));
        Check.due("no small one", 0, () -> grid.unmet(0, false));
        grid.contribute(11, 0, false, 11);
        Check.due("item 11", 2048, () -> grid.unmet(0, false));
        grid.contribute(0, 0, false, 11);
        Check.due("items 0 and 11", 2049, () -> grid.unmet(0, false));
        Check.due("no items", 0, () -> new GridEngine().unmet(0, true));
    }

    // Promise 25: "Throws IllegalArgumentException if there is no such axis"
    private static void unmetArguments() {
        for (int axis : NO_AXES) {
            Refusal.thrown("unmet on axis " + axis, REFUSED, g -> g.unmet(axis, false));
            Refusal.thrown("unmet on axis " + axis, REFUSED, g -> g.unmet(axis, true));
        }
    }

    // Promise 26: "A box contains its first, but not its last coordinate on each axis." The last
    // coordinate is the one at which it ends. "Throws NoSuchElementException if no box contains the
    // point".
    private static void itemUnderFirstAndLastCoordinates() {
        GridEngine grid = Check.grid("5 10", "7 20");
        grid.addItem(4, 4, 4, 4);
        grid.place(0, 0, 2, 1);
        grid.place(0, 1, 2, 1);
        int[][] inside = {{5, 7}, {14, 7}, {5, 26}, {14, 26}, {9, 15}};
        int[][] outside = {{4, 7}, {15, 7}, {5, 6}, {5, 27}, {4, 6}, {15, 27}, {0, 0}, {-1, -1}};
        duePoints("stretch", grid, inside, outside);
        grid.align(0, 0, 3);
        grid.align(0, 1, 2);
        // The box is 8 to 12 wide and 23 to 27 high.
        duePoints("aligned", grid, new int[][] {{8, 23}, {11, 23}, {8, 26}, {11, 26}},
            new int[][] {{7, 23}, {12, 23}, {8, 22}, {8, 27}, {5, 7}});
        grid.contribute(0, 0, false, 0);
        grid.contribute(0, 0, true, 0);
        // A box without a width contains no point.
        duePoints("empty", grid, new int[0][], new int[][] {{9, 23}, {10, 23}, {10, 26}});
        Refusal.thrown("itemUnder nothing", NOTHING, g -> g.itemUnder(-1, -1));
    }

    private static void duePoints(String what, GridEngine grid, int[][] inside, int[][] outside) {
        for (int[] point : inside) {
            Check.due(what + ": " + point[0] + ", " + point[1], 0,
                () -> grid.itemUnder(point[0], point[1]));
        }
        for (int[] point : outside) {
            Check.thrown(what + ": " + point[0] + ", " + point[1], NOTHING,
                () -> grid.itemUnder(point[0], point[1]));
        }
    }

    // Promise 26: "x: the coordinate on axis 0, any int"
    private static void itemUnderAnyInt() {
        int least = Integer.MIN_VALUE;
        int most = Integer.MAX_VALUE;
        GridEngine grid = Check.grid("10", "10");
        grid.addItem(999, 999, 999, 999);
        for (int alignment = 0; alignment <= 3; alignment++) {
            grid.align(0, 0, alignment);
            grid.align(0, 1, alignment);
            int[][] far = {{least, least}, {most, most}, {least, 0}, {0, most}, {most, 0},
                {0, least}, {least + 1, 5}, {most - 1, 5}};
            duePoints("alignment " + alignment, grid, new int[][] {{0, 0}, {9, 9}}, far);
        }
        grid.align(0, 0, 2);
        grid.align(0, 1, 2);
        duePoints("ahead of the grid", grid, new int[][] {{-989, -989}, {9, -989}},
            new int[][] {{-990, 0}, {0, -990}, {10, 9}});
        Check.thrown("no items", NOTHING, () -> new GridEngine().itemUnder(least, most));
    }

    // Promise 26: "Returns the highest item whose box contains a point."
    private static void itemUnderTheHighest() {
        GridEngine grid = Check.grid("10 10", "10");
        span(grid, 1, 2, 0, 20);
        span(grid, 1, 1, 0, 4);
        span(grid, 2, 1, 0, 10);
        grid.align(1, 0, 1);
        int[][] rows = {{0, 1}, {3, 1}, {4, 0}, {9, 0}, {10, 2}, {19, 2}};
        for (int[] row : rows) {
            Check.due("x " + row[0], row[1], () -> grid.itemUnder(row[0], 0));
        }
        Check.thrown("x 20", NOTHING, () -> grid.itemUnder(20, 0));
        grid.exchange(0, 2);
        Check.due("the wide one is the highest", 2, () -> grid.itemUnder(0, 0));
    }
}
