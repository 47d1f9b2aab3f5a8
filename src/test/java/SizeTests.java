import java.util.NoSuchElementException;

/** Promises 19 to 26: sizes in their five stages, positions, boxes. */
public final class SizeTests {
    private static final Class<IllegalArgumentException> REFUSED = IllegalArgumentException.class;
    private static final Class<IndexOutOfBoundsException> MISSING =
        IndexOutOfBoundsException.class;

    public static void main(String[] args) {
        baseSizes();
        boundsOfBaseSizes();
        groups();
        weights();
        limits();
        growing();
        fractions();
        fractionsWithoutSize();
        stretching();
        sizeRefused();
        isCollapsed();
        positionsByContent();
        positionsOfCollapsed();
        total();
        free();
        box();
        unmet();
        itemUnder();
        Check.finish("SizeTests");
    }

    /** Adds an item in the first row that spans columns from a start on. */
    private static void span(GridEngine grid, int start, int span, int small, int large) {
        int item = grid.addItem(small, large, 1, 1);
        grid.place(item, 0, start, span);
        grid.place(item, 1, 1, 1);
    }

    private static void baseSizes() {
        GridEngine grid = Check.grid("7 auto max minmax(3,50) 1fr", "");
        for (int column = 1; column <= 5; column++) {
            span(grid, column, 1, 10, 30);
        }
        Check.sizes("span 1", grid, 0, 1, 7, 10, 30, 3, 10);
        GridEngine pair = Check.grid("max min", "");
        span(pair, 1, 2, 10, 30);
        Check.sizes("small into both, large into one", pair, 0, 1, 25, 5);
        pair.set(0, 1, 4);
        Check.sizes("a gutter takes part of it", pair, 0, 1, 23, 3);
        GridEngine fixed = Check.grid("7 8", "");
        span(fixed, 1, 2, 100, 100);
        Check.sizes("nothing may be filled", fixed, 0, 1, 7, 8);
        GridEngine odd = Check.grid("", "");
        span(odd, 1, 4, 6, 6);
        Check.sizes("the lowest tracks first", odd, 0, 1, 2, 2, 1, 1);
    }

    private static void boundsOfBaseSizes() {
        GridEngine one = Check.grid("minmax(auto,10) auto", "");
        span(one, 1, 2, 30, 30);
        Check.sizes("one bound", one, 0, 1, 10, 20);
        GridEngine both = Check.grid("minmax(auto,10) minmax(auto,6)", "");
        span(both, 1, 2, 30, 30);
        Check.sizes("the rest goes on with the pixels given", both, 0, 1, 15, 15);
        both.contribute(0, 0, false, 18);
        both.contribute(0, 0, true, 18);
        Check.sizes("the rest reaches the second only", both, 0, 1, 10, 8);
        GridEngine above = Check.grid("minmax(auto,4) minmax(auto,20)", "");
        span(above, 1, 1, 9, 9);
        span(above, 1, 2, 20, 20);
        Check.sizes("above its bound already", above, 0, 1, 9, 11);
        GridEngine copies = Check.grid("minmax(auto,4) minmax(auto,4) auto", "");
        span(copies, 1, 2, 20, 20);
        span(copies, 2, 2, 20, 20);
        Check.sizes("bounds are those ahead of the group", copies, 0, 1, 10, 10, 16);
    }

    private static void groups() {
        GridEngine grid = Check.grid("", "");
        span(grid, 1, 2, 20, 20);
        span(grid, 2, 2, 40, 40);
        Check.sizes("the greatest of the copies", grid, 0, 1, 10, 20, 20);
        span(grid, 2, 1, 30, 30);
        Check.sizes("spans of 1 first", grid, 0, 1, 0, 35, 5);
        GridEngine mixed = Check.grid("auto 1fr", "");
        span(mixed, 1, 2, 30, 30);
        Check.sizes("only flexible tracks in the last group", mixed, 0, 1, 0, 30);
        GridEngine large = Check.grid("minmax(max,1fr) 1fr", "");
        span(large, 1, 2, 10, 30);
        Check.sizes("flexible tracks whose minimum is asked for", large, 0, 1, 25, 5);
        GridEngine order = Check.grid("max auto", "");
        span(order, 1, 1, 0, 12);
        span(order, 1, 2, 20, 20);
        Check.sizes("large ones ahead of the next span", order, 0, 1, 16, 4);
    }

    private static void weights() {
        GridEngine grid = Check.grid("1fr 3fr", "");
        span(grid, 1, 2, 10, 10);
        Check.sizes("10 pixels by factors", grid, 0, 1, 2, 8);
        grid.contribute(0, 0, false, 3);
        Check.sizes("3 pixels: the lower track at the same quotient", grid, 0, 1, 1, 2);
        grid.contribute(0, 0, false, 2);
        Check.sizes("2 pixels", grid, 0, 1, 0, 2);
    }

    private static void limits() {
        GridEngine grid = Check.grid("7 minmax(2,50) auto min max fit(20)", "");
        for (int column = 1; column <= 6; column++) {
            span(grid, column, 1, 10, 30);
        }
        Check.sizes("kinds", grid, 0, 2, 7, 50, 30, 10, 30, 20);
        GridEngine fit = Check.grid("fit(20)", "");
        span(fit, 1, 1, 25, 40);
        Check.sizes("the base size is above the fitting limit", fit, 0, 2, 25);
        GridEngine pair = Check.grid("fit(8) fit(8)", "");
        span(pair, 1, 2, 4, 40);
        Check.sizes("the rest is lost", pair, 0, 2, 8, 8);
        GridEngine below = Check.grid("minmax(40,30)", "");
        Check.sizes("a maximum below the base size", below, 0, 2, 40);
        GridEngine last = Check.grid("auto 1fr", "");
        span(last, 1, 2, 6, 60);
        Check.sizes("not the last group", last, 0, 2, 0, 6);
        GridEngine fixedMin = Check.grid("minmax(5,auto) min", "");
        span(fixedMin, 1, 2, 20, 50);
        Check.sizes("bases", fixedMin, 0, 1, 5, 15);
        Check.sizes("limits", fixedMin, 0, 2, 35, 15);
    }

    private static void growing() {
        GridEngine grid = Check.grid("auto auto", "");
        span(grid, 1, 1, 5, 30);
        span(grid, 2, 1, 5, 8);
        Check.sizes("without a size the limits", grid, 0, 3, 30, 8);
        grid.set(0, 2, 1);
        grid.set(0, 0, 40);
        Check.sizes("the rest is lost", grid, 0, 3, 30, 8);
        Check.due("free", 2, () -> grid.free(0));
        grid.set(0, 0, 20);
        Check.sizes("up to the limits", grid, 0, 3, 12, 8);
        grid.set(0, 1, 5);
        Check.sizes("less a gutter", grid, 0, 3, 8, 7);
        grid.set(0, 0, 3);
        Check.sizes("no free space", grid, 0, 3, 5, 5);
        Check.due("negative", -12, () -> grid.free(0));
    }

    private static void fractions() {
        GridEngine grid = Check.grid("1fr 1fr 1fr", "");
        grid.set(0, 0, 101);
        Check.sizes("equal remainders: lower tracks first", grid, 0, 4, 34, 34, 33);
        GridEngine three = Check.grid("1fr 1fr 2fr", "");
        three.set(0, 0, 100);
        span(three, 1, 1, 40, 40);
        Check.sizes("one stops", three, 0, 4, 40, 20, 40);
        three.contribute(0, 0, true, 200);
        three.contribute(0, 0, false, 120);
        Check.sizes("a leftover below 0", three, 0, 4, 120, 0, 0);
        GridEngine exact = Check.grid("2fr 1fr", "");
        exact.set(0, 0, 100);
        span(exact, 2, 1, 33, 33);
        Check.sizes("33 is not above 100 / 3", exact, 0, 4, 67, 33);
        exact.contribute(0, 0, true, 34);
        exact.contribute(0, 0, false, 34);
        Check.sizes("34 is above 100 / 3", exact, 0, 4, 66, 34);
        GridEngine mixed = Check.grid("10 1fr 3fr", "");
        mixed.set(0, 0, 60);
        mixed.set(0, 1, 5);
        Check.sizes("gutters and other tracks", mixed, 0, 4, 10, 10, 30);
    }

    private static void fractionsWithoutSize() {
        GridEngine grid = Check.grid("1fr 2fr", "");
        span(grid, 1, 1, 0, 30);
        span(grid, 2, 1, 0, 40);
        Check.sizes("the greatest quotient", grid, 0, 4, 30, 60);
        Check.sizes("ahead of it", grid, 0, 3, 0, 0);
        GridEngine exact = Check.grid("2fr 3fr", "");
        span(exact, 2, 1, 0, 10);
        Check.sizes("an exact unit, rounded up", exact, 0, 4, 7, 10);
        GridEngine mixed = Check.grid("10 1fr 1fr", "");
        mixed.set(0, 1, 4);
        span(mixed, 1, 3, 0, 48);
        Check.sizes("less other tracks and gutters", mixed, 0, 4, 10, 15, 15);
        GridEngine own = Check.grid("minmax(21,2fr) 1fr", "");
        Check.sizes("the size of a track", own, 0, 4, 21, 11);
        span(own, 2, 1, 0, 5);
        Check.sizes("less than that", own, 0, 4, 21, 11);
    }

    private static void stretching() {
        GridEngine grid = Check.grid("auto 10 auto fit(9)", "");
        grid.set(0, 0, 51);
        Check.sizes("ahead of it", grid, 0, 4, 0, 10, 0, 0);
        Check.sizes("auto maxima only", grid, 0, 5, 21, 10, 20, 0);
        Check.due("nothing is free", 0, () -> grid.free(0));
        grid.set(0, 2, 1);
        Check.sizes("another alignment", grid, 0, 5, 0, 10, 0, 0);
        GridEngine none = Check.grid("10", "");
        none.set(0, 0, 51);
        Check.sizes("no such track", none, 0, 5, 10);
        Check.due("stays free", 41, () -> none.free(0));
        GridEngine noSize = Check.grid("auto", "");
        Check.sizes("no size", noSize, 0, 5, 0);
    }

    private static void sizeRefused() {
        GridEngine grid = Check.grid("10", "");
        Check.thrown("no axis, no track", REFUSED, () -> grid.size(2, 9, 1));
        Check.thrown("stage 0, no track", REFUSED, () -> grid.size(0, 9, 0));
        Check.thrown("stage 6", REFUSED, () -> grid.size(0, 1, 6));
        Check.thrown("no track 0", MISSING, () -> grid.size(0, 0, 1));
        Check.thrown("no track 2", MISSING, () -> grid.size(0, 2, 1));
        Check.thrown("no row", MISSING, () -> grid.size(1, 1, 1));
    }

    private static void isCollapsed() {
        GridEngine grid = Check.grid("10? 20? 30 1fr?", "");
        span(grid, 2, 1, 5, 5);
        grid.set(0, 0, 100);
        Check.due("not covered", true, grid.isCollapsed(0, 1));
        Check.due("covered", false, grid.isCollapsed(0, 2));
        Check.due("not collapsible", false, grid.isCollapsed(0, 3));
        Check.due("flexible", true, grid.isCollapsed(0, 4));
        for (int stage = 1; stage <= 5; stage++) {
            Check.sizes("size 0", grid, 0, stage, 0, 20, 30, 0);
        }
        Check.feed(grid, "5?");
        grid.readImplicit(0);
        span(grid, 7, 1, 5, 5);
        Check.due("implicit, not covered", true, grid.isCollapsed(0, 6));
        Check.due("implicit, covered", false, grid.isCollapsed(0, 7));
        Check.thrown("no axis, no track", REFUSED, () -> grid.isCollapsed(2, 9) ? 1 : 0);
        Check.thrown("no track 0", MISSING, () -> grid.isCollapsed(0, 0) ? 1 : 0);
        Check.thrown("no track 8", MISSING, () -> grid.isCollapsed(0, 8) ? 1 : 0);
    }

    private static void positionsByContent() {
        GridEngine grid = Check.grid("10 10 10", "");
        grid.set(0, 2, 2);
        Check.positions("no size", grid, 0, 0, 10, 20);
        grid.set(0, 0, 60);
        int[][] wide = {{0, 10, 20}, {0, 10, 20}, {30, 40, 50}, {15, 25, 35}, {0, 25, 50},
            {5, 25, 45}, {7, 25, 42}};
        for (int content = 0; content <= 6; content++) {
            grid.set(0, 2, content);
            Check.positions("content " + content, grid, 0, wide[content]);
        }
        grid.set(0, 0, 15);
        int[][] narrow = {{0, 10, 20}, {0, 10, 20}, {-15, -5, 5}, {-8, 2, 12}, {0, 10, 20},
            {-8, 2, 12}, {-8, 2, 12}};
        for (int content = 0; content <= 6; content++) {
            grid.set(0, 2, content);
            Check.positions("negative, content " + content, grid, 0, narrow[content]);
        }
        GridEngine one = Check.grid("10", "");
        one.set(0, 0, 31);
        int[] single = {0, 0, 21, 10, 0, 10, 10};
        for (int content = 0; content <= 6; content++) {
            one.set(0, 2, content);
            Check.positions("one track, content " + content, one, 0, single[content]);
        }
    }

    private static void positionsOfCollapsed() {
        GridEngine grid = Check.grid("10 5? 10 5? 5?", "");
        grid.set(0, 1, 3);
        Check.positions("between and behind", grid, 0, 0, 13, 13, 23, 23);
        grid.set(0, 0, 33);
        grid.set(0, 2, 4);
        Check.positions("space between", grid, 0, 0, 23, 23, 33, 33);
        GridEngine all = Check.grid("5? 5?", "");
        all.set(0, 0, 50);
        all.set(0, 1, 9);
        for (int content = 0; content <= 6; content++) {
            all.set(0, 2, content);
            Check.positions("all collapsed, content " + content, all, 0, 0, 0);
        }
        Check.thrown("no axis, no track", REFUSED, () -> all.position(2, 9));
        Check.thrown("no track 0", MISSING, () -> all.position(0, 0));
        Check.thrown("no track 3", MISSING, () -> all.position(0, 3));
    }

    private static void total() {
        GridEngine grid = Check.grid("10 minmax(5,20) 5? 1fr", "");
        grid.set(0, 1, 7);
        Check.due("bases and two gutters", 29, () -> grid.total(0, 1));
        Check.due("limits", 44, () -> grid.total(0, 2));
        grid.set(0, 0, 60);
        Check.due("grown", 44, () -> grid.total(0, 3));
        Check.due("shared", 60, () -> grid.total(0, 4));
        Check.due("no rows", 0, () -> grid.total(1, 5));
        Check.thrown("no axis", REFUSED, () -> grid.total(2, 1));
        Check.thrown("stage 0", REFUSED, () -> grid.total(0, 0));
        Check.thrown("stage 6", REFUSED, () -> grid.total(0, 6));
        GridEngine stretched = Check.grid("auto", "");
        stretched.set(0, 0, 60);
        Check.due("ahead of stretching", 0, () -> stretched.total(0, 4));
        Check.due("stretched", 60, () -> stretched.total(0, 5));
    }

    private static void free() {
        GridEngine grid = Check.grid("30 40", "");
        Check.due("no size", 0, () -> grid.free(0));
        grid.set(0, 0, 100);
        Check.due("positive", 30, () -> grid.free(0));
        grid.set(0, 1, 50);
        Check.due("negative", -20, () -> grid.free(0));
        grid.set(1, 0, 9);
        Check.due("no tracks", 9, () -> grid.free(1));
        Check.thrown("no axis 2", REFUSED, () -> grid.free(2));
        Check.thrown("no axis -1", REFUSED, () -> grid.free(-1));
    }

    private static void boxes(String what, GridEngine grid, int... want) {
        for (int part = 0; part < want.length; part++) {
            int p = part;
            Check.due(what + ": part " + p, want[p], () -> grid.box(0, 0, p));
        }
    }

    private static void box() {
        GridEngine grid = Check.grid("10 30 20", "");
        grid.set(0, 1, 5);
        span(grid, 2, 2, 11, 40);
        boxes("stretch", grid, 15, 55, 15, 55);
        int[][] wide = {{15, 55, 15, 55}, {15, 40, 15, 55}, {30, 40, 15, 55}, {22, 40, 15, 55}};
        for (int alignment = 0; alignment <= 3; alignment++) {
            grid.align(0, 0, alignment);
            boxes("smaller, alignment " + alignment, grid, wide[alignment]);
        }
        grid.contribute(0, 0, true, 90);
        boxes("between both", grid, 15, 55, 15, 55);
        grid.contribute(0, 0, false, 60);
        int[][] narrow = {{15, 55, 15, 55}, {15, 60, 15, 55}, {10, 60, 15, 55}, {12, 60, 15, 55}};
        for (int alignment = 0; alignment <= 3; alignment++) {
            grid.align(0, 0, alignment);
            boxes("larger, alignment " + alignment, grid, narrow[alignment]);
        }
        Check.thrown("no item, no axis", MISSING, () -> grid.box(1, 2, 9));
        Check.thrown("no axis", REFUSED, () -> grid.box(0, 2, 0));
        Check.thrown("what 4", REFUSED, () -> grid.box(0, 0, 4));
        Check.thrown("what -1", REFUSED, () -> grid.box(0, 0, -1));
    }

    private static void unmet() {
        GridEngine grid = Check.grid("10 20", "");
        span(grid, 1, 1, 10, 11);
        span(grid, 2, 1, 21, 30);
        span(grid, 1, 2, 30, 30);
        Check.due("small", 2, () -> grid.unmet(0, false));
        Check.due("large", 3, () -> grid.unmet(0, true));
        grid.set(0, 1, 1);
        grid.contribute(2, 0, true, 32);
        Check.due("one pixel is missing", 7, () -> grid.unmet(0, true));
        Check.due("the other axis", 0, () -> grid.unmet(1, true));
        Check.thrown("no axis", REFUSED, () -> grid.unmet(2, true));
        Check.thrown("no axis -1", REFUSED, () -> grid.unmet(-1, false));
    }

    private static void itemUnder() {
        Class<NoSuchElementException> nothing = NoSuchElementException.class;
        GridEngine grid = Check.grid("10 10", "10");
        span(grid, 1, 2, 4, 15);
        span(grid, 2, 1, 5, 5);
        grid.align(0, 0, 1);
        Check.due("the first coordinate", 0, () -> grid.itemUnder(0, 0));
        Check.due("the last but one", 0, () -> grid.itemUnder(9, 9));
        Check.due("the highest", 1, () -> grid.itemUnder(10, 0));
        Check.due("the last of both", 1, () -> grid.itemUnder(19, 9));
        Check.thrown("behind", nothing, () -> grid.itemUnder(20, 0));
        Check.thrown("below", nothing, () -> grid.itemUnder(0, 10));
        Check.thrown("above", nothing, () -> grid.itemUnder(0, -1));
        grid.align(1, 0, 2);
        Check.due("the box, not the area", 0, () -> grid.itemUnder(14, 0));
        Check.due("the box begins", 1, () -> grid.itemUnder(15, 0));
        grid.contribute(0, 0, true, 999);
        grid.contribute(0, 0, false, 23);
        grid.align(0, 0, 2);
        Check.due("ahead of the grid", 0, () -> grid.itemUnder(-3, 0));
        Check.thrown("further ahead", nothing, () -> grid.itemUnder(-4, 0));
        Check.thrown("far away", nothing,
            () -> grid.itemUnder(Integer.MAX_VALUE, Integer.MIN_VALUE));
        Check.thrown("far away", nothing,
            () -> grid.itemUnder(Integer.MIN_VALUE, Integer.MAX_VALUE));
    }
}
