import java.util.ArrayDeque;
import java.util.ArrayList;
import java.util.Comparator;
import java.util.Deque;
import java.util.HashSet;
import java.util.List;
import java.util.NoSuchElementException;
import java.util.Set;

/**
 * The document once more, slow and word for word, written apart from GridEngine: texts by trying
 * every way to read them, cells as a set, pixels one by one. RandomTests compares the two.
 */
final class PlainGrid {
    static final int NONE = -1;

    record Track(int minKind, int minValue, int maxKind, int maxValue, boolean collapsible) { }

    record Cell(int main, int side) { }

    static final class Item {
        int[] small = new int[2];
        int[] large = new int[2];
        int[] start = {NONE, NONE};
        int[] span = {1, 1};
        int[] alignment = new int[2];

        Item copy() {
            Item other = new Item();
            other.small = small.clone();
            other.large = large.clone();
            other.start = start.clone();
            other.span = span.clone();
            other.alignment = alignment.clone();
            return other;
        }
    }

    static final class State {
        List<List<Track>> explicit = List.of(List.of(), List.of());
        List<Track> implicit = List.of(new Track(1, 0, 3, 0, false), new Track(1, 0, 3, 0, false));
        int[][] settings = {{NONE, 0, 0}, {NONE, 0, 0}};
        int flow = 0;
        boolean dense = false;
        List<Item> items = new ArrayList<>();

        State copy() {
            State other = new State();
            other.explicit = explicit;
            other.implicit = implicit;
            other.settings = new int[][] {settings[0].clone(), settings[1].clone()};
            other.flow = flow;
            other.dense = dense;
            for (Item item : items) {
                other.items.add(item.copy());
            }
            return other;
        }
    }

    private State state = new State();
    private final State[] slots = new State[3];
    private final Deque<State> past = new ArrayDeque<>();
    private String buffer = "";
    private int[][] keptPlaces;
    private final Axis[] keptAxes = new Axis[2];

    // ---- reading texts: every rule tells all ways in which it can read on from an offset

    record Reading(int end, List<Track> tracks, boolean hasZero) { }

    record Amount(int end, int kind, int value, boolean hasZero) { }

    private String text;
    private int furthest;

    private List<Integer> word(List<Integer> starts, String word) {
        List<Integer> ends = new ArrayList<>(starts);
        for (char letter : word.toCharArray()) {
            List<Integer> next = new ArrayList<>();
            for (int at : ends) {
                furthest = Math.max(furthest, at);
                if (at < text.length() && text.charAt(at) == letter) {
                    next.add(at + 1);
                }
            }
            ends = next;
        }
        return ends;
    }

    private List<Integer> word(int start, String word) {
        return word(List.of(start), word);
    }

    private List<Amount> number(int start) {
        List<Amount> found = new ArrayList<>();
        int value = 0;
        for (int at = start; at < start + 3; at++) {
            furthest = Math.max(furthest, at);
            if (at >= text.length() || text.charAt(at) < '0' || text.charAt(at) > '9') {
                break;
            }
            value = value * 10 + text.charAt(at) - '0';
            found.add(new Amount(at + 1, 0, value, false));
        }
        return found;
    }

    private List<Amount> minimum(int start) {
        List<Amount> found = new ArrayList<>(number(start));
        word(start, "auto").forEach(end -> found.add(new Amount(end, 1, 0, false)));
        word(start, "min").forEach(end -> found.add(new Amount(end, 1, 0, false)));
        word(start, "max").forEach(end -> found.add(new Amount(end, 2, 0, false)));
        return found;
    }

    private List<Amount> flexible(int start) {
        List<Amount> found = new ArrayList<>();
        for (Amount number : number(start)) {
            for (int end : word(number.end, "fr")) {
                found.add(new Amount(end, 5, number.value, number.value == 0));
            }
        }
        return found;
    }

    private List<Amount> maximum(int start) {
        List<Amount> found = new ArrayList<>(number(start));
        word(start, "auto").forEach(end -> found.add(new Amount(end, 3, 0, false)));
        word(start, "min").forEach(end -> found.add(new Amount(end, 1, 0, false)));
        word(start, "max").forEach(end -> found.add(new Amount(end, 2, 0, false)));
        found.addAll(flexible(start));
        return found;
    }

    private static Reading single(int end, Amount least, Amount most) {
        Track track = new Track(least.kind, least.value, most.kind, most.value, false);
        return new Reading(end, List.of(track), least.hasZero || most.hasZero);
    }

    private List<Reading> simple(int start) {
        Amount small = new Amount(0, 1, 0, false);
        List<Reading> found = new ArrayList<>();
        for (Amount number : number(start)) {
            found.add(single(number.end, number, number));
        }
        word(start, "auto").forEach(e -> found.add(single(e, small, new Amount(0, 3, 0, false))));
        word(start, "min").forEach(e -> found.add(single(e, small, small)));
        Amount large = new Amount(0, 2, 0, false);
        word(start, "max").forEach(e -> found.add(single(e, large, large)));
        for (Amount factor : flexible(start)) {
            found.add(single(factor.end, small, factor));
        }
        for (int behind : word(start, "fit(")) {
            for (Amount limit : number(behind)) {
                Amount fitting = new Amount(0, 4, limit.value, false);
                word(limit.end, ")").forEach(end -> found.add(single(end, small, fitting)));
            }
        }
        for (int behind : word(start, "minmax(")) {
            for (Amount least : minimum(behind)) {
                for (int comma : word(least.end, ",")) {
                    for (Amount most : maximum(comma)) {
                        word(most.end, ")").forEach(end -> found.add(single(end, least, most)));
                    }
                }
            }
        }
        return found;
    }

    private List<Reading> track(int start, int open) {
        List<Reading> found = new ArrayList<>();
        for (Reading plain : simple(start)) {
            found.add(plain);
            Track track = plain.tracks.get(0);
            Track marked = new Track(track.minKind, track.minValue, track.maxKind,
                track.maxValue, true);
            for (int end : word(plain.end, "?")) {
                found.add(new Reading(end, List.of(marked), plain.hasZero));
            }
        }
        for (int bracket : word(start, "repeat")) {
            furthest = Math.max(furthest, bracket);
            if (open == 4) {
                continue;
            }
            for (int behind : word(bracket, "(")) {
                for (Amount number : number(behind)) {
                    for (int comma : word(number.end, ",")) {
                        for (Reading inner : list(comma, open + 1)) {
                            for (int end : word(inner.end, ")")) {
                                found.add(new Reading(end, copies(inner.tracks, number.value),
                                    inner.hasZero));
                            }
                        }
                    }
                }
            }
        }
        return found;
    }

    /** Copies of a list; behind 13 tracks it is the same how many more there are. */
    private static List<Track> copies(List<Track> tracks, int number) {
        List<Track> all = new ArrayList<>();
        for (int copy = 0; copy < number && all.size() < 13; copy++) {
            all.addAll(tracks);
        }
        return all;
    }

    private List<Reading> list(int start, int open) {
        List<Reading> found = new ArrayList<>();
        List<Reading> fresh = track(start, open);
        while (!fresh.isEmpty()) {
            found.addAll(fresh);
            List<Reading> longer = new ArrayList<>();
            for (Reading head : fresh) {
                for (int behind : word(head.end, " ")) {
                    for (Reading next : track(behind, open)) {
                        List<Track> all = new ArrayList<>(head.tracks);
                        all.addAll(next.tracks);
                        longer.add(new Reading(next.end, all, head.hasZero || next.hasZero));
                    }
                }
            }
            fresh = longer;
        }
        return found;
    }

    /** Reads the buffer and empties it; null stands for a text that is not correct. */
    private Reading readBuffer() {
        text = buffer;
        buffer = "";
        furthest = 0;
        if (text.isEmpty()) {
            return new Reading(0, List.of(), false);
        }
        Reading whole = null;
        for (Reading reading : list(0, 0)) {
            furthest = Math.max(furthest, reading.end);
            if (reading.end == text.length()) {
                if (whole != null && !whole.equals(reading)) {
                    throw new AssertionError("two readings of " + text);
                }
                whole = reading;
            }
        }
        if (whole != null && whole.hasZero) {
            throw new IllegalArgumentException();
        }
        if (whole != null && whole.tracks.size() > 12) {
            throw new IllegalStateException();
        }
        return whole;
    }

    // ---- calls that change

    private void remember() {
        forgetLayout();
        past.push(state.copy());
        if (past.size() > 8) {
            past.removeLast();
        }
    }

    private void forgetLayout() {
        keptPlaces = null;
        keptAxes[0] = null;
        keptAxes[1] = null;
    }

    private int[][] placed() {
        if (keptPlaces == null) {
            keptPlaces = findPlaces();
        }
        return keptPlaces;
    }

    private Axis laidOut(int axis) {
        if (keptAxes[axis] == null) {
            keptAxes[axis] = new Axis(axis);
        }
        return keptAxes[axis];
    }

    private static void refuseUnless(boolean isRight) {
        if (!isRight) {
            throw new IllegalArgumentException();
        }
    }

    private static void missingUnless(boolean isThere) {
        if (!isThere) {
            throw new IndexOutOfBoundsException();
        }
    }

    private static void checkAxis(int axis) {
        refuseUnless(axis == 0 || axis == 1);
    }

    private void checkItem(int item) {
        missingUnless(item >= 0 && item < state.items.size());
    }

    private void checkTrack(int axis, int track) {
        missingUnless(track >= 1 && track <= tracks(axis));
    }

    int feed(char letter) {
        if (buffer.length() == 120) {
            throw new IllegalStateException();
        }
        buffer += letter;
        return buffer.length();
    }

    private static <T> List<T> with(List<T> pair, int axis, T value) {
        return axis == 0 ? List.of(value, pair.get(1)) : List.of(pair.get(0), value);
    }

    int readTracks(int axis) {
        checkAxis(axis);
        Reading reading = readBuffer();
        if (reading == null) {
            return -100 - furthest;
        }
        remember();
        state.explicit = with(state.explicit, axis, reading.tracks);
        return reading.tracks.size();
    }

    int readImplicit(int axis) {
        checkAxis(axis);
        Reading reading = readBuffer();
        if (reading == null) {
            return -100 - furthest;
        }
        if (!reading.tracks.isEmpty()) {
            remember();
            state.implicit = with(state.implicit, axis, reading.tracks.get(0));
        }
        return reading.tracks.size();
    }

    int definition(int axis, int track, int part) {
        checkAxis(axis);
        refuseUnless(part >= 0 && part <= 4);
        checkTrack(axis, track);
        Track found = trackAt(axis, track);
        return List.of(found.minKind, found.minValue, found.maxKind, found.maxValue,
            found.collapsible ? 1 : 0).get(part);
    }

    int set(int axis, int setting, int value) {
        checkAxis(axis);
        refuseUnless(setting >= 0 && setting <= 2);
        int[] least = {-1, 0, 0};
        int[] most = {9999, 99, 6};
        refuseUnless(value >= least[setting] && value <= most[setting]);
        remember();
        int previous = state.settings[axis][setting];
        state.settings[axis][setting] = value;
        return previous;
    }

    int setFlow(int flow, boolean dense) {
        refuseUnless(flow == 0 || flow == 1);
        remember();
        int previous = state.flow * 2 + (state.dense ? 1 : 0);
        state.flow = flow;
        state.dense = dense;
        return previous;
    }

    int addItem(int smallWidth, int largeWidth, int smallHeight, int largeHeight) {
        for (int value : new int[] {smallWidth, largeWidth, smallHeight, largeHeight}) {
            refuseUnless(value >= 0 && value <= 999);
        }
        refuseUnless(smallWidth <= largeWidth && smallHeight <= largeHeight);
        if (state.items.size() == 12) {
            throw new IllegalStateException();
        }
        remember();
        Item item = new Item();
        item.small = new int[] {smallWidth, smallHeight};
        item.large = new int[] {largeWidth, largeHeight};
        state.items.add(item);
        return state.items.size() - 1;
    }

    int place(int item, int axis, int start, int span) {
        checkItem(item);
        checkAxis(axis);
        refuseUnless(start == NONE || (start >= 1 && start <= 12));
        refuseUnless(span >= 1 && span <= 4);
        remember();
        Item found = state.items.get(item);
        int previous = Math.max(0, found.start[axis]) * 10 + found.span[axis];
        found.start[axis] = start;
        found.span[axis] = span;
        return previous;
    }

    int align(int item, int axis, int alignment) {
        checkItem(item);
        checkAxis(axis);
        refuseUnless(alignment >= 0 && alignment <= 3);
        remember();
        int previous = state.items.get(item).alignment[axis];
        state.items.get(item).alignment[axis] = alignment;
        return previous;
    }

    int contribute(int item, int axis, boolean isLarge, int value) {
        checkItem(item);
        checkAxis(axis);
        refuseUnless(value >= 0 && value <= 999);
        Item found = state.items.get(item);
        refuseUnless(isLarge ? found.small[axis] <= value : value <= found.large[axis]);
        remember();
        int[] row = isLarge ? found.large : found.small;
        int previous = row[axis];
        row[axis] = value;
        return previous;
    }

    int removeItem(int item) {
        checkItem(item);
        remember();
        state.items.remove(item);
        return state.items.size();
    }

    int exchange(int one, int other) {
        checkItem(one);
        checkItem(other);
        remember();
        java.util.Collections.swap(state.items, one, other);
        return state.items.size();
    }

    int save(int slot) {
        missingUnless(slot >= 0 && slot <= 2);
        slots[slot] = state.copy();
        return state.items.size();
    }

    int restore(int slot) {
        missingUnless(slot >= 0 && slot <= 2);
        if (slots[slot] == null) {
            throw new IllegalStateException();
        }
        remember();
        state = slots[slot].copy();
        return state.items.size();
    }

    int undo() {
        if (past.isEmpty()) {
            throw new IllegalStateException();
        }
        forgetLayout();
        state = past.pop();
        return past.size();
    }

    // ---- placement: for each item its first track on both axes

    private int[][] findPlaces() {
        int mainAxis = state.flow == 0 ? 1 : 0;
        int sideAxis = 1 - mainAxis;
        int count = state.items.size();
        Cell[] places = new Cell[count];
        Set<Cell> taken = new HashSet<>();
        for (int i = 0; i < count; i++) {
            Item item = state.items.get(i);
            if (item.start[0] != NONE && item.start[1] != NONE) {
                places[i] = new Cell(item.start[mainAxis], item.start[sideAxis]);
                taken.addAll(cover(item, places[i], mainAxis));
            }
        }
        int[] greatest = new int[13];
        for (int i = 0; i < count; i++) {
            Item item = state.items.get(i);
            int main = item.start[mainAxis];
            if (main != NONE && item.start[sideAxis] == NONE) {
                int side = state.dense ? 1 : greatest[main] + 1;
                while (hits(taken, cover(item, new Cell(main, side), mainAxis))) {
                    side++;
                }
                greatest[main] = Math.max(greatest[main], side);
                places[i] = new Cell(main, side);
                taken.addAll(cover(item, places[i], mainAxis));
            }
        }
        int sideCount = Math.max(1, state.explicit.get(sideAxis).size());
        for (Cell cell : taken) {
            sideCount = Math.max(sideCount, cell.side);
        }
        for (Item item : state.items) {
            if (item.start[mainAxis] == NONE) {
                int start = item.start[sideAxis] == NONE ? 1 : item.start[sideAxis];
                sideCount = Math.max(sideCount, start + item.span[sideAxis] - 1);
            }
        }
        Cell cursor = new Cell(1, 1);
        for (int i = 0; i < count; i++) {
            Item item = state.items.get(i);
            if (places[i] != null) {
                continue;
            }
            if (state.dense) {
                cursor = new Cell(1, 1);
            }
            if (item.start[sideAxis] != NONE) {
                int main = item.start[sideAxis] < cursor.side ? cursor.main + 1 : cursor.main;
                cursor = new Cell(main, item.start[sideAxis]);
                while (hits(taken, cover(item, cursor, mainAxis))) {
                    cursor = new Cell(cursor.main + 1, cursor.side);
                }
            } else {
                int span = item.span[sideAxis];
                while (cursor.side + span - 1 > sideCount
                        || hits(taken, cover(item, cursor, mainAxis))) {
                    cursor = new Cell(cursor.main, cursor.side + 1);
                    if (cursor.side + span - 1 > sideCount) {
                        cursor = new Cell(cursor.main + 1, 1);
                    }
                }
            }
            places[i] = cursor;
            taken.addAll(cover(item, cursor, mainAxis));
        }
        int[][] starts = new int[count][2];
        for (int i = 0; i < count; i++) {
            starts[i][mainAxis] = places[i].main;
            starts[i][sideAxis] = places[i].side;
        }
        return starts;
    }

    private static Set<Cell> cover(Item item, Cell place, int mainAxis) {
        Set<Cell> cells = new HashSet<>();
        for (int main = 0; main < item.span[mainAxis]; main++) {
            for (int side = 0; side < item.span[1 - mainAxis]; side++) {
                cells.add(new Cell(place.main + main, place.side + side));
            }
        }
        return cells;
    }

    private static boolean hits(Set<Cell> taken, Set<Cell> cells) {
        return cells.stream().anyMatch(taken::contains);
    }

    int items() {
        return state.items.size();
    }

    int tracks(int axis) {
        checkAxis(axis);
        int count = state.explicit.get(axis).size();
        int[][] starts = placed();
        for (int i = 0; i < starts.length; i++) {
            count = Math.max(count, starts[i][axis] + state.items.get(i).span[axis] - 1);
        }
        return count;
    }

    int startOf(int item, int axis) {
        checkItem(item);
        checkAxis(axis);
        return placed()[item][axis];
    }

    private List<Integer> itemsOver(int column, int row) {
        int[][] starts = placed();
        List<Integer> found = new ArrayList<>();
        for (int i = 0; i < starts.length; i++) {
            int right = starts[i][0] + state.items.get(i).span[0];
            int below = starts[i][1] + state.items.get(i).span[1];
            if (starts[i][0] <= column && column < right && starts[i][1] <= row && row < below) {
                found.add(i);
            }
        }
        return found;
    }

    int itemIn(int column, int row) {
        checkTrack(0, column);
        checkTrack(1, row);
        List<Integer> found = itemsOver(column, row);
        if (found.isEmpty()) {
            throw new NoSuchElementException();
        }
        return found.get(found.size() - 1);
    }

    int cells(int what) {
        refuseUnless(what >= 0 && what <= 2);
        int found = 0;
        int width = tracks(0);
        int height = tracks(1);
        for (int column = 1; column <= width; column++) {
            for (int row = 1; row <= height; row++) {
                int covers = itemsOver(column, row).size();
                if (what == 0 || (what == 1 && covers == 0) || (what == 2 && covers > 1)) {
                    found++;
                }
            }
        }
        return found;
    }

    // ---- sizes

    private Track trackAt(int axis, int track) {
        List<Track> explicit = state.explicit.get(axis);
        return track <= explicit.size() ? explicit.get(track - 1) : state.implicit.get(axis);
    }

    /** What is known of one axis while it is laid out; tracks are numbered from 1. */
    private final class Axis {
        final int axis;
        final int count;
        final int[][] starts = placed();
        final Track[] track;
        final boolean[] collapsed;
        final int[][] sizes;
        final int gap;
        final int size;
        final int content;
        final List<Integer> live = new ArrayList<>();
        final int[] positions;
        int free = 0;

        Axis(int axis) {
            this.axis = axis;
            count = tracks(axis);
            gap = state.settings[axis][1];
            size = state.settings[axis][0];
            content = state.settings[axis][2];
            track = new Track[count + 1];
            collapsed = new boolean[count + 1];
            sizes = new int[6][count + 1];
            positions = new int[count + 1];
            for (int t = 1; t <= count; t++) {
                track[t] = trackAt(axis, t);
                collapsed[t] = track[t].collapsible;
                for (int i = 0; i < starts.length; i++) {
                    collapsed[t] &= !covered(i).contains(t);
                }
                if (!collapsed[t]) {
                    live.add(t);
                }
            }
            base();
            limit();
            grow();
            share();
            stretch();
            position();
        }

        List<Integer> covered(int i) {
            List<Integer> found = new ArrayList<>();
            for (int k = 0; k < state.items.get(i).span[axis]; k++) {
                found.add(starts[i][axis] + k);
            }
            return found;
        }

        boolean flexible(int t) {
            return track[t].maxKind == 5;
        }

        int group(int i) {
            return covered(i).stream().anyMatch(this::flexible) ? 5 : covered(i).size();
        }

        int gutters() {
            return Math.max(0, live.size() - 1) * gap;
        }

        int sum(int stage) {
            int sum = gutters();
            for (int t : live) {
                sum += sizes[stage][t];
            }
            return sum;
        }

        /** Gives pixels out one after the other; Integer.MAX_VALUE is no bound. */
        void fill(int[] row, List<Integer> tracks, int[] weights, int[] bounds, int pixels,
                boolean restWithoutBounds) {
            int[] given = new int[row.length];
            boolean bounded = true;
            while (pixels > 0 && !tracks.isEmpty()) {
                int best = 0;
                for (int t : tracks) {
                    if (bounded && row[t] >= bounds[t]) {
                        continue;
                    }
                    if (best == 0 || (long) (given[t] + 1) * weights[best]
                            < (long) (given[best] + 1) * weights[t]) {
                        best = t;
                    }
                }
                if (best == 0) {
                    if (!restWithoutBounds) {
                        return;
                    }
                    bounded = false;
                } else {
                    row[best]++;
                    given[best]++;
                    pixels--;
                }
            }
        }

        int[] ones() {
            int[] ones = new int[count + 1];
            java.util.Arrays.fill(ones, 1);
            return ones;
        }

        int[] bounds() {
            int[] bounds = new int[count + 1];
            java.util.Arrays.fill(bounds, Integer.MAX_VALUE);
            return bounds;
        }

        void base() {
            for (int t : live) {
                sizes[1][t] = track[t].minKind == 0 ? track[t].minValue : 0;
            }
            for (int group = 1; group <= 5; group++) {
                for (int pass = 0; pass < 2; pass++) {
                    int[] before = sizes[1].clone();
                    int[] result = before.clone();
                    for (int i = 0; i < starts.length; i++) {
                        if (group(i) != group) {
                            continue;
                        }
                        Item item = state.items.get(i);
                        int[] copy = before.clone();
                        int[] bounds = bounds();
                        int[] weights = ones();
                        List<Integer> chosen = new ArrayList<>();
                        for (int t : covered(i)) {
                            boolean asked = pass == 0 ? track[t].minKind != 0 : track[t].minKind == 2;
                            if (asked && (group < 5 || flexible(t))) {
                                chosen.add(t);
                            }
                            if (track[t].maxKind == 0) {
                                bounds[t] = Math.max(track[t].maxValue, before[t]);
                            }
                            if (group == 5) {
                                weights[t] = track[t].maxValue;
                            }
                        }
                        int wanted = pass == 0 ? item.small[axis] : item.large[axis];
                        fill(copy, chosen, weights, bounds, wanted - space(i, before), true);
                        merge(result, copy);
                    }
                    sizes[1] = result;
                }
            }
        }

        int space(int i, int[] row) {
            int space = (covered(i).size() - 1) * gap;
            for (int t : covered(i)) {
                space += row[t];
            }
            return space;
        }

        void merge(int[] result, int[] copy) {
            for (int t = 1; t <= count; t++) {
                result[t] = Math.max(result[t], copy[t]);
            }
        }

        void limit() {
            for (int t : live) {
                sizes[2][t] = sizes[1][t];
                if (track[t].maxKind == 0) {
                    sizes[2][t] = Math.max(sizes[1][t], track[t].maxValue);
                }
            }
            for (int group = 1; group <= 4; group++) {
                for (int pass = 0; pass < 2; pass++) {
                    int[] before = sizes[2].clone();
                    int[] result = before.clone();
                    for (int i = 0; i < starts.length; i++) {
                        if (group(i) != group) {
                            continue;
                        }
                        Item item = state.items.get(i);
                        int[] copy = before.clone();
                        int[] bounds = bounds();
                        List<Integer> chosen = new ArrayList<>();
                        for (int t : covered(i)) {
                            Set<Integer> kinds = pass == 0 ? Set.of(1, 2, 3, 4) : Set.of(2, 3, 4);
                            if (kinds.contains(track[t].maxKind)) {
                                chosen.add(t);
                            }
                            if (track[t].maxKind == 4) {
                                bounds[t] = Math.max(track[t].maxValue, sizes[1][t]);
                            }
                        }
                        int wanted = pass == 0 ? item.small[axis] : item.large[axis];
                        fill(copy, chosen, ones(), bounds, wanted - space(i, before), false);
                        merge(result, copy);
                    }
                    sizes[2] = result;
                }
            }
        }

        void grow() {
            if (size == NONE) {
                sizes[3] = sizes[2].clone();
            } else {
                sizes[3] = sizes[1].clone();
                fill(sizes[3], live, ones(), sizes[2], size - sum(1), false);
            }
        }

        void share() {
            sizes[4] = sizes[3].clone();
            List<Integer> active = new ArrayList<>();
            for (int t : live) {
                if (flexible(t)) {
                    active.add(t);
                }
            }
            if (size == NONE) {
                shareWithoutSize(active);
                return;
            }
            while (true) {
                long leftover = size - gutters();
                long factors = 0;
                for (int t : live) {
                    if (active.contains(t)) {
                        factors += track[t].maxValue;
                    } else {
                        leftover -= sizes[3][t];
                    }
                }
                List<Integer> stopping = new ArrayList<>();
                for (int t : active) {
                    if (sizes[3][t] * factors > leftover * track[t].maxValue) {
                        stopping.add(t);
                    }
                }
                if (!stopping.isEmpty()) {
                    active.removeAll(stopping);
                    continue;
                }
                if (active.isEmpty()) {
                    return;
                }
                giveShares(active, leftover, factors);
                return;
            }
        }

        void giveShares(List<Integer> active, long leftover, long factors) {
            long rest = leftover;
            for (int t : active) {
                sizes[4][t] = (int) (leftover * track[t].maxValue / factors);
                rest -= sizes[4][t];
            }
            List<Integer> order = new ArrayList<>(active);
            order.sort(Comparator.comparingLong(
                (Integer t) -> -(leftover * track[t].maxValue % factors)).thenComparing(t -> t));
            for (int i = 0; i < rest; i++) {
                sizes[4][order.get(i)]++;
            }
        }

        void shareWithoutSize(List<Integer> active) {
            List<long[]> quotients = new ArrayList<>();
            for (int t : active) {
                quotients.add(new long[] {sizes[3][t], track[t].maxValue});
            }
            for (int i = 0; i < starts.length; i++) {
                if (group(i) == 5) {
                    long excess = state.items.get(i).large[axis] - (covered(i).size() - 1) * gap;
                    long factors = 0;
                    for (int t : covered(i)) {
                        excess -= flexible(t) ? 0 : sizes[3][t];
                        factors += flexible(t) ? track[t].maxValue : 0;
                    }
                    quotients.add(new long[] {excess, factors});
                }
            }
            for (int t : active) {
                for (long[] quotient : quotients) {
                    long share = -Math.floorDiv(-quotient[0] * track[t].maxValue, quotient[1]);
                    sizes[4][t] = (int) Math.max(sizes[4][t], share);
                }
            }
        }

        void stretch() {
            sizes[5] = sizes[4].clone();
            if (size != NONE && content == 0) {
                List<Integer> chosen = new ArrayList<>(live);
                chosen.removeIf(t -> track[t].maxKind != 3);
                fill(sizes[5], chosen, ones(), bounds(), size - sum(4), false);
            }
            free = size == NONE ? 0 : size - sum(5);
        }

        void position() {
            int n = live.size();
            int ahead = 0;
            for (int i = 0; i < n; i++) {
                int t = live.get(i);
                positions[t] = ahead + offset(i, n);
                ahead += sizes[5][t] + gap;
            }
            for (int t = 1; t <= count; t++) {
                if (collapsed[t]) {
                    int after = t;
                    while (after <= count && collapsed[after]) {
                        after++;
                    }
                    if (after <= count) {
                        positions[t] = positions[after];
                    } else if (n > 0) {
                        int last = live.get(n - 1);
                        positions[t] = positions[last] + sizes[5][last];
                    }
                }
            }
        }

        int offset(int i, int n) {
            int center = Math.floorDiv(free, 2);
            return switch (content) {
                case 2 -> free;
                case 3 -> center;
                case 4 -> free < 0 || n == 1 ? 0 : free * i / (n - 1);
                case 5 -> free < 0 ? center : free * (2 * i + 1) / (2 * n);
                case 6 -> free < 0 ? center : free * (i + 1) / (n + 1);
                default -> 0;
            };
        }

        int[] area(int i) {
            List<Integer> covered = covered(i);
            int last = covered.get(covered.size() - 1);
            int begin = positions[covered.get(0)];
            return new int[] {begin, positions[last] + sizes[5][last] - begin};
        }

        int[] box(int i) {
            int[] area = area(i);
            Item item = state.items.get(i);
            int size = Math.max(item.small[axis], Math.min(item.large[axis], area[1]));
            return switch (item.alignment[axis]) {
                case 0 -> area;
                case 1 -> new int[] {area[0], size};
                case 2 -> new int[] {area[0] + area[1] - size, size};
                default -> new int[] {area[0] + Math.floorDiv(area[1] - size, 2), size};
            };
        }
    }

    int size(int axis, int track, int stage) {
        checkAxis(axis);
        refuseUnless(stage >= 1 && stage <= 5);
        checkTrack(axis, track);
        return laidOut(axis).sizes[stage][track];
    }

    boolean isCollapsed(int axis, int track) {
        checkAxis(axis);
        checkTrack(axis, track);
        return laidOut(axis).collapsed[track];
    }

    int position(int axis, int track) {
        checkAxis(axis);
        checkTrack(axis, track);
        return laidOut(axis).positions[track];
    }

    int total(int axis, int stage) {
        checkAxis(axis);
        refuseUnless(stage >= 1 && stage <= 5);
        return laidOut(axis).sum(stage);
    }

    int free(int axis) {
        checkAxis(axis);
        return laidOut(axis).free;
    }

    int box(int item, int axis, int what) {
        checkItem(item);
        checkAxis(axis);
        refuseUnless(what >= 0 && what <= 3);
        Axis laidOut = laidOut(axis);
        return what < 2 ? laidOut.box(item)[what] : laidOut.area(item)[what - 2];
    }

    int unmet(int axis, boolean isLarge) {
        checkAxis(axis);
        Axis laidOut = laidOut(axis);
        int found = 0;
        for (int i = 0; i < state.items.size(); i++) {
            Item item = state.items.get(i);
            if (laidOut.area(i)[1] < (isLarge ? item.large[axis] : item.small[axis])) {
                found += 1 << i;
            }
        }
        return found;
    }

    int itemUnder(int x, int y) {
        Axis columns = laidOut(0);
        Axis rows = laidOut(1);
        for (int i = state.items.size() - 1; i >= 0; i--) {
            int[] across = columns.box(i);
            int[] down = rows.box(i);
            if (across[0] <= x && x < across[0] + across[1]
                    && down[0] <= y && y < down[0] + down[1]) {
                return i;
            }
        }
        throw new NoSuchElementException();
    }
}
