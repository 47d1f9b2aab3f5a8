import java.util.Arrays;
import java.util.NoSuchElementException;

/**
 * A grid layout engine in whole pixels: items are placed in the cells of a grid, and the sizes of
 * rows and columns are found from fixed sizes, contents, spanning items and fractions of the free
 * space. The face checks what it is given; the classes inside keep the state and lay the grid out.
 */
public final class GridEngine {
    /** An automatic start, and the size of an axis that has none. */
    public static final int NONE = -1;

    private static final int AXES = 2;
    private static final int MAX_LETTERS = 120;
    private static final int MAX_EXPLICIT = 12;
    private static final int MAX_ITEMS = 12;
    private static final int MAX_LINE = 12;
    private static final int MAX_SPAN = 4;
    private static final int MAX_CONTRIBUTION = 999;
    private static final int MAX_AXIS_SIZE = 9999;
    private static final int MAX_GAP = 99;
    private static final int MAX_CONTENT = 6;
    private static final int MAX_ALIGNMENT = 3;
    private static final int MAX_OPEN = 4;
    private static final int MAX_DIGITS = 3;
    private static final int MAX_CHANGES = 8;
    private static final int SLOTS = 3;

    // One item with a start covers track 15 at most, and each of 11 more goes at most 4 beyond.
    private static final int MAX_GRID = 64;

    // The parts of a track definition.
    private static final int MIN_KIND = 0;
    private static final int MIN_VALUE = 1;
    private static final int MAX_KIND = 2;
    private static final int MAX_VALUE = 3;
    private static final int COLLAPSIBLE = 4;
    private static final int PARTS = 5;

    // The kinds of a minimum or a maximum.
    private static final int FIXED = 0;
    private static final int SMALL = 1;
    private static final int LARGE = 2;
    private static final int AUTO = 3;
    private static final int FITTING = 4;
    private static final int FLEXIBLE = 5;

    // The settings of an axis.
    private static final int AXIS_SIZE = 0;
    private static final int GAP = 1;
    private static final int CONTENT = 2;
    private static final int SETTINGS = 3;

    // The fields of an item on an axis.
    private static final int SMALL_SIZE = 0;
    private static final int LARGE_SIZE = 1;
    private static final int START = 2;
    private static final int SPAN = 3;
    private static final int ALIGNMENT = 4;
    private static final int FIELDS = 5;

    // The stages of the sizes of an axis.
    private static final int BASE = 1;
    private static final int LIMIT = 2;
    private static final int GROWN = 3;
    private static final int SHARED = 4;
    private static final int STRETCHED = 5;

    private final char[] letters = new char[MAX_LETTERS];
    private int letterCount = 0;
    private final TrackText text = new TrackText();
    private final Model model = new Model();
    private final Model[] slots = new Model[SLOTS];
    private final boolean[] isSlotFilled = new boolean[SLOTS];
    private final Model[] changes = new Model[MAX_CHANGES];
    private int nextChange = 0;
    private int changeCount = 0;
    private final Placement placement = new Placement(model);
    private final AxisLayout columns = new AxisLayout(0, model, placement);
    private final AxisLayout rows = new AxisLayout(1, model, placement);
    private final Filling filling = new Filling();
    private final Contributions contributions = new Contributions(filling);
    private final Fractions fractions = new Fractions();
    private boolean isArranged = false;

    public GridEngine() {
        for (int slot = 0; slot < SLOTS; slot++) {
            slots[slot] = new Model();
        }
        for (int change = 0; change < MAX_CHANGES; change++) {
            changes[change] = new Model();
        }
    }

    // ---- tracks and settings

    public int feed(char letter) throws IllegalStateException {
        if (letterCount < 0 || letterCount >= letters.length) {
            throw new IllegalStateException("the buffer is full");
        }
        letters[letterCount] = letter;
        letterCount++;
        return letterCount;
    }

    public int readTracks(int axis) throws IllegalArgumentException, IllegalStateException {
        checkAxis(axis);
        int length = letterCount;
        letterCount = 0;
        if (!text.parse(letters, length)) {
            return -100 - text.at;
        }
        checkText();
        rememberChange();
        model.takeTracks(axis, text);
        return text.trackCount;
    }

    public int readImplicit(int axis) throws IllegalArgumentException, IllegalStateException {
        checkAxis(axis);
        int length = letterCount;
        letterCount = 0;
        if (!text.parse(letters, length)) {
            return -100 - text.at;
        }
        checkText();
        if (text.trackCount > 0) {
            rememberChange();
            model.takeImplicit(axis, text);
        }
        return text.trackCount;
    }

    public int definition(int axis, int track, int part)
            throws IllegalArgumentException, IndexOutOfBoundsException {
        checkAxis(axis);
        checkRange(part, 0, PARTS - 1);
        arrange();
        checkTrack(axis, track);
        return model.trackPart(axis, track, part);
    }

    public int set(int axis, int setting, int value) throws IllegalArgumentException {
        checkAxis(axis);
        if (!isSettingInRange(setting, value)) {
            throw new IllegalArgumentException("no such setting, or its value is out of range");
        }
        rememberChange();
        int previous = model.setting(axis, setting);
        model.changeSetting(axis, setting, value);
        return previous;
    }

    public int setFlow(int flow, boolean isDense) throws IllegalArgumentException {
        checkRange(flow, 0, 1);
        rememberChange();
        int previous = 2 * model.flow + (model.isDense ? 1 : 0);
        model.flow = flow;
        model.isDense = isDense;
        return previous;
    }

    // ---- items

    public int addItem(int smallWidth, int largeWidth, int smallHeight, int largeHeight)
            throws IllegalArgumentException, IllegalStateException {
        checkContributions(smallWidth, largeWidth);
        checkContributions(smallHeight, largeHeight);
        if (model.itemCount >= MAX_ITEMS) {
            throw new IllegalStateException("there are 12 items");
        }
        rememberChange();
        int item = model.itemCount;
        model.itemCount = item + 1;
        model.startItem(item, 0, smallWidth, largeWidth);
        model.startItem(item, 1, smallHeight, largeHeight);
        return item;
    }

    public int place(int item, int axis, int start, int span)
            throws IndexOutOfBoundsException, IllegalArgumentException {
        checkItem(item);
        checkAxis(axis);
        if (start != NONE) {
            checkRange(start, 1, MAX_LINE);
        }
        checkRange(span, 1, MAX_SPAN);
        rememberChange();
        int previousStart = model.itemField(item, axis, START);
        int previousSpan = model.itemField(item, axis, SPAN);
        model.changeItem(item, axis, START, start);
        model.changeItem(item, axis, SPAN, span);
        return (previousStart == NONE ? 0 : 10 * previousStart) + previousSpan;
    }

    public int align(int item, int axis, int alignment)
            throws IndexOutOfBoundsException, IllegalArgumentException {
        checkItem(item);
        checkAxis(axis);
        checkRange(alignment, 0, MAX_ALIGNMENT);
        rememberChange();
        int previous = model.itemField(item, axis, ALIGNMENT);
        model.changeItem(item, axis, ALIGNMENT, alignment);
        return previous;
    }

    public int contribute(int item, int axis, boolean isLarge, int value)
            throws IndexOutOfBoundsException, IllegalArgumentException {
        checkItem(item);
        checkAxis(axis);
        int small = isLarge ? model.itemField(item, axis, SMALL_SIZE) : value;
        int large = isLarge ? value : model.itemField(item, axis, LARGE_SIZE);
        checkContributions(small, large);
        rememberChange();
        int field = isLarge ? LARGE_SIZE : SMALL_SIZE;
        int previous = model.itemField(item, axis, field);
        model.changeItem(item, axis, field, value);
        return previous;
    }

    public int removeItem(int item) throws IndexOutOfBoundsException {
        checkItem(item);
        rememberChange();
        model.dropItem(item);
        return model.itemCount;
    }

    public int exchange(int one, int other) throws IndexOutOfBoundsException {
        checkItem(one);
        checkItem(other);
        rememberChange();
        model.swapItems(one, other);
        return model.itemCount;
    }

    public int items() {
        return model.itemCount;
    }

    // ---- placement

    public int tracks(int axis) throws IllegalArgumentException {
        checkAxis(axis);
        arrange();
        return placement.trackCount(axis);
    }

    public int startOf(int item, int axis)
            throws IndexOutOfBoundsException, IllegalArgumentException {
        checkItem(item);
        checkAxis(axis);
        arrange();
        return placement.firstTrack(item, axis);
    }

    public int itemIn(int column, int row)
            throws IndexOutOfBoundsException, NoSuchElementException {
        arrange();
        checkTrack(0, column);
        checkTrack(1, row);
        for (int item = model.itemCount - 1; item >= 0; item--) {
            if (placement.isCovering(item, column, row)) {
                return item;
            }
        }
        throw new NoSuchElementException("no item covers the cell");
    }

    public int cells(int what) throws IllegalArgumentException {
        checkRange(what, 0, 2);
        arrange();
        if (what == 0) {
            return placement.trackCount(0) * placement.trackCount(1);
        }
        return placement.countCells(what == 2);
    }

    // ---- sizes

    public int size(int axis, int track, int stage)
            throws IllegalArgumentException, IndexOutOfBoundsException {
        checkAxis(axis);
        checkRange(stage, BASE, STRETCHED);
        arrange();
        checkTrack(axis, track);
        return layoutOf(axis).trackSize(track, stage);
    }

    public boolean isCollapsed(int axis, int track)
            throws IllegalArgumentException, IndexOutOfBoundsException {
        checkAxis(axis);
        arrange();
        checkTrack(axis, track);
        return !layoutOf(axis).isOpen(track);
    }

    public int position(int axis, int track)
            throws IllegalArgumentException, IndexOutOfBoundsException {
        checkAxis(axis);
        arrange();
        checkTrack(axis, track);
        return layoutOf(axis).trackBegin(track);
    }

    public int total(int axis, int stage) throws IllegalArgumentException {
        checkAxis(axis);
        checkRange(stage, BASE, STRETCHED);
        arrange();
        return layoutOf(axis).sumWithGutters(stage);
    }

    public int free(int axis) throws IllegalArgumentException {
        checkAxis(axis);
        arrange();
        return layoutOf(axis).freeSpace;
    }

    public int box(int item, int axis, int what)
            throws IndexOutOfBoundsException, IllegalArgumentException {
        checkItem(item);
        checkAxis(axis);
        checkRange(what, 0, 3);
        arrange();
        AxisLayout layout = layoutOf(axis);
        switch (what) {
            case 0: return layout.boxBegin(item);
            case 1: return layout.boxSize(item);
            case 2: return layout.areaBegin(item);
            default: return layout.areaSize(item);
        }
    }

    public int unmet(int axis, boolean isLarge) throws IllegalArgumentException {
        checkAxis(axis);
        arrange();
        AxisLayout layout = layoutOf(axis);
        int found = 0;
        for (int item = 0; item < model.itemCount; item++) {
            int wanted = model.itemField(item, axis, isLarge ? LARGE_SIZE : SMALL_SIZE);
            if (layout.areaSize(item) < wanted) {
                found |= 1 << item;
            }
        }
        return found;
    }

    public int itemUnder(int x, int y) throws NoSuchElementException {
        arrange();
        for (int item = model.itemCount - 1; item >= 0; item--) {
            if (columns.isInBox(item, x) && rows.isInBox(item, y)) {
                return item;
            }
        }
        throw new NoSuchElementException("no box contains the point");
    }

    // ---- states

    public int save(int slot) throws IndexOutOfBoundsException {
        checkSlot(slot);
        slots[slot].copyFrom(model);
        isSlotFilled[slot] = true;
        return model.itemCount;
    }

    public int restore(int slot) throws IndexOutOfBoundsException, IllegalStateException {
        checkSlot(slot);
        if (!isSlotFilled[slot]) {
            throw new IllegalStateException("the slot holds nothing");
        }
        rememberChange();
        model.copyFrom(slots[slot]);
        return model.itemCount;
    }

    public int undo() throws IllegalStateException {
        if (changeCount <= 0) {
            throw new IllegalStateException("there is no change to take back");
        }
        nextChange = nextChange > 0 ? nextChange - 1 : MAX_CHANGES - 1;
        changeCount--;
        model.copyFrom(changes[nextChange]);
        isArranged = false;
        return changeCount;
    }

    // ---- checks

    private static void checkAxis(int axis) {
        if (axis < 0 || axis >= AXES) {
            throw new IllegalArgumentException("no such axis");
        }
    }

    private static void checkRange(int value, int least, int greatest) {
        if (value < least || value > greatest) {
            throw new IllegalArgumentException("an argument is out of range");
        }
    }

    private static void checkContributions(int small, int large) {
        if (small < 0 || small > large || large > MAX_CONTRIBUTION) {
            throw new IllegalArgumentException("a contribution is out of range");
        }
    }

    private static boolean isSettingInRange(int setting, int value) {
        switch (setting) {
            case AXIS_SIZE: return value == NONE || (value >= 0 && value <= MAX_AXIS_SIZE);
            case GAP: return value >= 0 && value <= MAX_GAP;
            case CONTENT: return value >= 0 && value <= MAX_CONTENT;
            default: return false;
        }
    }

    private void checkItem(int item) {
        if (item < 0 || item >= model.itemCount) {
            throw new IndexOutOfBoundsException("no such item");
        }
    }

    private void checkTrack(int axis, int track) {
        if (track < 1 || track > placement.trackCount(axis)) {
            throw new IndexOutOfBoundsException("the grid has no such track");
        }
    }

    private void checkSlot(int slot) {
        if (slot < 0 || slot >= SLOTS) {
            throw new IndexOutOfBoundsException("no such slot");
        }
    }

    /** Refuses a correct text, a factor 0 ahead of too many tracks. */
    private void checkText() {
        if (text.hasZeroFactor) {
            throw new IllegalArgumentException("the text has a factor 0");
        }
        if (text.trackCount > MAX_EXPLICIT) {
            throw new IllegalStateException("the text has more than 12 tracks");
        }
    }

    // ---- what the calls share

    /** Keeps the state as it is before a change that is sure to succeed. */
    private void rememberChange() {
        changes[nextChange].copyFrom(model);
        nextChange = nextChange < MAX_CHANGES - 1 ? nextChange + 1 : 0;
        changeCount = Math.min(changeCount + 1, MAX_CHANGES);
        isArranged = false;
    }

    private AxisLayout layoutOf(int axis) {
        return axis == 0 ? columns : rows;
    }

    /** Lays the grid out anew, if something has changed since it was last laid out. */
    private void arrange() {
        if (isArranged) {
            return;
        }
        placement.placeAll();
        for (int axis = 0; axis < AXES; axis++) {
            AxisLayout layout = layoutOf(axis);
            layout.collapseTracks();
            contributions.findBases(layout);
            contributions.findLimits(layout);
            layout.growTracks(filling);
            fractions.shareOut(layout);
            layout.stretchTracks(filling);
            layout.findPositions();
        }
        isArranged = true;
    }

    /** All that is saved, restored and taken back: tracks, settings and items. */
    private static final class Model {
        private static final int ROWS = MAX_EXPLICIT + 1;

        // On each axis the explicit tracks, and the implicit definition behind them.
        private final int[] trackParts = new int[AXES * ROWS * PARTS];
        private final int[] explicitCounts = new int[AXES];
        private final int[] settings = new int[AXES * SETTINGS];
        private final int[] itemFields = new int[MAX_ITEMS * AXES * FIELDS];
        private int itemCount = 0;
        private int flow = 0;
        private boolean isDense = false;

        Model() {
            for (int axis = 0; axis < AXES; axis++) {
                int implicit = (axis * ROWS + MAX_EXPLICIT) * PARTS;
                trackParts[implicit + MIN_KIND] = SMALL;
                trackParts[implicit + MAX_KIND] = AUTO;
                settings[axis * SETTINGS + AXIS_SIZE] = NONE;
            }
        }

        void copyFrom(Model other) {
            if (other == null) {
                return;
            }
            System.arraycopy(other.trackParts, 0, trackParts, 0, trackParts.length);
            System.arraycopy(other.explicitCounts, 0, explicitCounts, 0, AXES);
            System.arraycopy(other.settings, 0, settings, 0, settings.length);
            System.arraycopy(other.itemFields, 0, itemFields, 0, itemFields.length);
            itemCount = other.itemCount;
            flow = other.flow;
            isDense = other.isDense;
        }

        int explicitCount(int axis) {
            return axis >= 0 && axis < AXES ? explicitCounts[axis] : 0;
        }

        /** Tells a part of the definition of a track, from 1, explicit or implicit. */
        int trackPart(int axis, int track, int part) {
            if (axis < 0 || axis >= AXES) {
                return 0;
            }
            int row = track <= explicitCounts[axis] ? track - 1 : MAX_EXPLICIT;
            int index = (axis * ROWS + row) * PARTS + part;
            return index >= 0 && index < trackParts.length ? trackParts[index] : 0;
        }

        void takeTracks(int axis, TrackText text) {
            int count = Math.max(0, Math.min(text.trackCount, MAX_EXPLICIT));
            if (axis >= 0 && axis < AXES) {
                System.arraycopy(text.parts, 0, trackParts, axis * ROWS * PARTS, count * PARTS);
                explicitCounts[axis] = count;
            }
        }

        void takeImplicit(int axis, TrackText text) {
            if (axis >= 0 && axis < AXES) {
                int implicit = (axis * ROWS + MAX_EXPLICIT) * PARTS;
                System.arraycopy(text.parts, 0, trackParts, implicit, PARTS);
            }
        }

        int setting(int axis, int setting) {
            int index = axis * SETTINGS + setting;
            return index >= 0 && index < settings.length ? settings[index] : 0;
        }

        void changeSetting(int axis, int setting, int value) {
            int index = axis * SETTINGS + setting;
            if (index >= 0 && index < settings.length) {
                settings[index] = value;
            }
        }

        int itemField(int item, int axis, int field) {
            int index = (item * AXES + axis) * FIELDS + field;
            return index >= 0 && index < itemFields.length ? itemFields[index] : 0;
        }

        void changeItem(int item, int axis, int field, int value) {
            int index = (item * AXES + axis) * FIELDS + field;
            if (index >= 0 && index < itemFields.length) {
                itemFields[index] = value;
            }
        }

        /** Gives a new item its contributions on an axis, and the rest as it is at first. */
        void startItem(int item, int axis, int small, int large) {
            changeItem(item, axis, SMALL_SIZE, small);
            changeItem(item, axis, LARGE_SIZE, large);
            changeItem(item, axis, START, NONE);
            changeItem(item, axis, SPAN, 1);
            changeItem(item, axis, ALIGNMENT, 0);
        }

        void dropItem(int item) {
            int length = AXES * FIELDS;
            if (item < 0 || item >= itemCount || itemCount > MAX_ITEMS) {
                return;
            }
            int behind = (itemCount - 1 - item) * length;
            System.arraycopy(itemFields, (item + 1) * length, itemFields, item * length, behind);
            itemCount--;
        }

        void swapItems(int one, int other) {
            for (int axis = 0; axis < AXES; axis++) {
                for (int field = 0; field < FIELDS; field++) {
                    int kept = itemField(one, axis, field);
                    changeItem(one, axis, field, itemField(other, axis, field));
                    changeItem(other, axis, field, kept);
                }
            }
        }
    }

    /**
     * Parses a text of tracks. Each choice rests on the next letter alone, so the first letter
     * that does not fit is the first one that cannot continue a text.
     */
    private static final class TrackText {
        // One track more than allowed stands for all numbers of tracks that are too many.
        private static final int CAPACITY = MAX_EXPLICIT + 1;

        private char[] letters = new char[0];
        private int length = 0;
        private int at = 0;
        private int number = 0;
        private int kind = FIXED;
        private boolean hasZeroFactor = false;
        private int trackCount = 0;
        private final int[] parts = new int[CAPACITY * PARTS];
        private final int[] track = new int[PARTS];
        private int openCount = 0;
        private final int[] openStarts = new int[MAX_OPEN];
        private final int[] openCopies = new int[MAX_OPEN];

        /** Tells whether the text is correct; if not, at is the error position. */
        boolean parse(char[] newLetters, int newLength) {
            letters = newLetters;
            length = Math.max(0, Math.min(newLength, newLetters.length));
            at = 0;
            hasZeroFactor = false;
            trackCount = 0;
            openCount = 0;
            if (length == 0) {
                return true;
            }
            for (int turn = 0; turn <= length; turn++) {
                if (isNext('r')) {
                    if (!openRepeat()) {
                        return false;
                    }
                } else {
                    if (!parseSimple()) {
                        return false;
                    }
                    addTrack();
                    closeRepeats();
                    if (at >= length) {
                        return openCount == 0;
                    }
                    if (!takeWord(" ")) {
                        return false;
                    }
                }
            }
            return false;
        }

        private boolean isNext(char letter) {
            return at >= 0 && at < length && at < letters.length && letters[at] == letter;
        }

        private boolean isDigitNext() {
            return at >= 0 && at < length && at < letters.length
                && letters[at] >= '0' && letters[at] <= '9';
        }

        /** Reads a word letter by letter and stops at the first one that differs. */
        private boolean takeWord(String word) {
            for (int i = 0; i < word.length(); i++) {
                if (!isNext(word.charAt(i))) {
                    return false;
                }
                at++;
            }
            return true;
        }

        private boolean takeNumber() {
            if (!isDigitNext()) {
                return false;
            }
            number = 0;
            for (int digit = 0; digit < MAX_DIGITS && isDigitNext(); digit++) {
                number = 10 * number + (letters[at] - '0');
                at++;
            }
            return true;
        }

        private boolean openRepeat() {
            if (!takeWord("repeat") || openCount >= MAX_OPEN) {
                return false;
            }
            if (!takeWord("(") || !takeNumber() || !takeWord(",")) {
                return false;
            }
            openStarts[openCount] = trackCount;
            openCopies[openCount] = number;
            openCount++;
            return true;
        }

        private void closeRepeats() {
            while (openCount > 0 && openCount <= MAX_OPEN && isNext(')')) {
                at++;
                openCount--;
                copyTracks(openStarts[openCount], openCopies[openCount]);
            }
        }

        /** Makes as many copies as wanted of all tracks from a start on. */
        private void copyTracks(int start, int copies) {
            int wide = trackCount - start;
            if (copies == 0) {
                trackCount = start;
            } else if (wide > 0) {
                int wanted = Math.min(CAPACITY, start + copies * wide);
                for (int i = trackCount; i < wanted; i++) {
                    copyTrack(i - wide, i);
                }
                trackCount = wanted;
            }
        }

        private void copyTrack(int from, int to) {
            if (from >= 0 && from < CAPACITY && to >= 0 && to < CAPACITY) {
                System.arraycopy(parts, from * PARTS, parts, to * PARTS, PARTS);
            }
        }

        private void addTrack() {
            if (trackCount >= 0 && trackCount < CAPACITY) {
                System.arraycopy(track, 0, parts, trackCount * PARTS, PARTS);
                trackCount++;
            }
        }

        private boolean parseSimple() {
            Arrays.fill(track, 0);
            boolean isCorrect;
            if (isDigitNext()) {
                isCorrect = parseNumber();
            } else if (isNext('a')) {
                defineMinimum(SMALL, 0);
                defineMaximum(AUTO, 0);
                isCorrect = takeWord("auto");
            } else if (isNext('f')) {
                isCorrect = parseFitting();
            } else {
                isCorrect = parseMinOrMax();
            }
            if (isCorrect && isNext('?')) {
                at++;
                track[COLLAPSIBLE] = 1;
            }
            return isCorrect;
        }

        private boolean parseFitting() {
            boolean isCorrect = takeWord("fit(") && takeNumber() && takeWord(")");
            defineMinimum(SMALL, 0);
            defineMaximum(FITTING, number);
            return isCorrect;
        }

        private boolean parseNumber() {
            if (!takeNumber()) {
                return false;
            }
            if (isNext('f')) {
                defineMinimum(SMALL, 0);
                return parseFactor();
            }
            defineMinimum(FIXED, number);
            defineMaximum(FIXED, number);
            return true;
        }

        /** Reads what stands behind the number of a factor. */
        private boolean parseFactor() {
            hasZeroFactor |= number == 0;
            defineMaximum(FLEXIBLE, number);
            return takeWord("fr");
        }

        private boolean parseMinOrMax() {
            if (!takeSmallOrLarge()) {
                return false;
            }
            if (kind == SMALL && isNext('m')) {
                return takeWord("max(") && parseMinimum() && takeWord(",")
                    && parseMaximum() && takeWord(")");
            }
            defineMinimum(kind, 0);
            defineMaximum(kind, 0);
            return true;
        }

        /** Reads min or max, which of both its second letter tells. */
        private boolean takeSmallOrLarge() {
            if (!takeWord("m")) {
                return false;
            }
            boolean isSmall = isNext('i');
            kind = isSmall ? SMALL : LARGE;
            return takeWord(isSmall ? "in" : "ax");
        }

        private boolean parseMinimum() {
            if (isDigitNext()) {
                boolean isCorrect = takeNumber();
                defineMinimum(FIXED, number);
                return isCorrect;
            }
            if (isNext('a')) {
                defineMinimum(SMALL, 0);
                return takeWord("auto");
            }
            boolean isCorrect = takeSmallOrLarge();
            defineMinimum(kind, 0);
            return isCorrect;
        }

        private boolean parseMaximum() {
            if (isDigitNext()) {
                boolean isCorrect = takeNumber();
                defineMaximum(FIXED, number);
                return isNext('f') ? parseFactor() : isCorrect;
            }
            if (isNext('a')) {
                defineMaximum(AUTO, 0);
                return takeWord("auto");
            }
            boolean isCorrect = takeSmallOrLarge();
            defineMaximum(kind, 0);
            return isCorrect;
        }

        private void defineMinimum(int kind, int value) {
            track[MIN_KIND] = kind;
            track[MIN_VALUE] = value;
        }

        private void defineMaximum(int kind, int value) {
            track[MAX_KIND] = kind;
            track[MAX_VALUE] = value;
        }
    }

    /** Finds the place of each item, in the four steps of the document. */
    private static final class Placement {
        private final Model model;
        private final int[] starts = new int[MAX_ITEMS * AXES];
        private final boolean[] isPlaced = new boolean[MAX_ITEMS];
        private final int[] trackCounts = new int[AXES];
        private int mainAxis = 1;
        private int sideAxis = 0;
        private int sideCount = 1;
        private int cursorMain = 1;
        private int cursorSide = 1;

        Placement(Model model) {
            this.model = model;
        }

        void placeAll() {
            mainAxis = model.flow == 0 ? 1 : 0;
            sideAxis = 1 - mainAxis;
            for (int item = 0; item < MAX_ITEMS; item++) {
                isPlaced[item] = false;
            }
            placeFixed();
            placeWithMainStart();
            findSideCount();
            placeWithCursor();
            for (int axis = 0; axis < AXES; axis++) {
                trackCounts[axis] = Math.min(MAX_GRID, neededTracks(axis));
            }
        }

        int trackCount(int axis) {
            return axis >= 0 && axis < AXES ? trackCounts[axis] : 0;
        }

        int firstTrack(int item, int axis) {
            int index = item * AXES + axis;
            return index >= 0 && index < starts.length ? starts[index] : 1;
        }

        int lastTrack(int item, int axis) {
            return firstTrack(item, axis) + model.itemField(item, axis, SPAN) - 1;
        }

        boolean isCovering(int item, int column, int row) {
            return isAcross(item, 0, column) && isAcross(item, 1, row);
        }

        boolean isAcross(int item, int axis, int track) {
            return firstTrack(item, axis) <= track && track <= lastTrack(item, axis);
        }

        /** Counts the cells under several items, or those under none. */
        int countCells(boolean isCrowded) {
            int found = 0;
            for (int row = 1; row <= trackCounts[1]; row++) {
                for (int column = 1; column <= trackCounts[0]; column++) {
                    int covers = countCovers(column, row);
                    if (isCrowded ? covers > 1 : covers == 0) {
                        found++;
                    }
                }
            }
            return found;
        }

        private int countCovers(int column, int row) {
            int covers = 0;
            for (int item = 0; item < model.itemCount; item++) {
                if (isCovering(item, column, row)) {
                    covers++;
                }
            }
            return covers;
        }

        private boolean hasStart(int item, int axis) {
            return model.itemField(item, axis, START) != NONE;
        }

        private void placeFixed() {
            for (int item = 0; item < model.itemCount; item++) {
                if (hasStart(item, mainAxis) && hasStart(item, sideAxis)) {
                    putAt(item, model.itemField(item, mainAxis, START),
                        model.itemField(item, sideAxis, START));
                }
            }
        }

        private void placeWithMainStart() {
            for (int item = 0; item < model.itemCount; item++) {
                if (hasStart(item, mainAxis) && !hasStart(item, sideAxis)) {
                    int main = model.itemField(item, mainAxis, START);
                    int side = model.isDense ? 1 : firstSparseSide(item, main);
                    while (side < MAX_GRID && !isFreeAt(item, main, side)) {
                        side++;
                    }
                    putAt(item, main, side);
                }
            }
        }

        /** Tells the least side start behind those of earlier items of this step. */
        private int firstSparseSide(int item, int main) {
            int side = 1;
            for (int earlier = 0; earlier < item; earlier++) {
                boolean isOfStep = hasStart(earlier, mainAxis) && !hasStart(earlier, sideAxis);
                if (isOfStep && firstTrack(earlier, mainAxis) == main) {
                    side = Math.max(side, firstTrack(earlier, sideAxis) + 1);
                }
            }
            return side;
        }

        private void findSideCount() {
            int count = Math.max(1, model.explicitCount(sideAxis));
            for (int item = 0; item < model.itemCount; item++) {
                int span = model.itemField(item, sideAxis, SPAN);
                int start = 1;
                if (isPlacedBefore(item)) {
                    start = firstTrack(item, sideAxis);
                } else if (hasStart(item, sideAxis)) {
                    start = model.itemField(item, sideAxis, START);
                }
                count = Math.max(count, start + span - 1);
            }
            sideCount = count;
        }

        private void placeWithCursor() {
            cursorMain = 1;
            cursorSide = 1;
            for (int item = 0; item < model.itemCount; item++) {
                if (!isPlacedBefore(item)) {
                    if (model.isDense) {
                        cursorMain = 1;
                        cursorSide = 1;
                    }
                    if (hasStart(item, sideAxis)) {
                        moveAlongMain(item);
                    } else {
                        moveToFreePlace(item);
                    }
                    putAt(item, cursorMain, cursorSide);
                }
            }
        }

        private void moveAlongMain(int item) {
            int side = model.itemField(item, sideAxis, START);
            if (side < cursorSide) {
                cursorMain++;
            }
            cursorSide = side;
            while (cursorMain < MAX_GRID && !isFreeAt(item, cursorMain, cursorSide)) {
                cursorMain++;
            }
        }

        private void moveToFreePlace(int item) {
            int lastSide = sideCount - model.itemField(item, sideAxis, SPAN) + 1;
            while (cursorMain < MAX_GRID
                    && (cursorSide > lastSide || !isFreeAt(item, cursorMain, cursorSide))) {
                cursorSide++;
                if (cursorSide > lastSide) {
                    cursorMain++;
                    cursorSide = 1;
                }
            }
        }

        private boolean isPlacedBefore(int item) {
            return item >= 0 && item < MAX_ITEMS && isPlaced[item];
        }

        /** Tells whether an item would cover no cell of those that are placed. */
        private boolean isFreeAt(int item, int main, int side) {
            int mainEnd = main + model.itemField(item, mainAxis, SPAN) - 1;
            int sideEnd = side + model.itemField(item, sideAxis, SPAN) - 1;
            for (int other = 0; other < model.itemCount; other++) {
                if (isPlacedBefore(other)
                        && firstTrack(other, mainAxis) <= mainEnd
                        && main <= lastTrack(other, mainAxis)
                        && firstTrack(other, sideAxis) <= sideEnd
                        && side <= lastTrack(other, sideAxis)) {
                    return false;
                }
            }
            return true;
        }

        private void putAt(int item, int main, int side) {
            if (item >= 0 && item < MAX_ITEMS) {
                starts[item * AXES + mainAxis] = main;
                starts[item * AXES + sideAxis] = side;
                isPlaced[item] = true;
            }
        }

        private int neededTracks(int axis) {
            int count = model.explicitCount(axis);
            for (int item = 0; item < model.itemCount; item++) {
                count = Math.max(count, lastTrack(item, axis));
            }
            return count;
        }
    }

    /** Gives pixels out to tracks, in the order in which single pixels would go. */
    private static final class Filling {
        private static final int NO_BOUND = 1000000;
        private static final int HIGHEST_STEP = 8192;

        private final int[] tracks = new int[MAX_GRID];
        private final int[] weights = new int[MAX_GRID];
        private final int[] rooms = new int[MAX_GRID];
        private final int[] given = new int[MAX_GRID];
        private int count = 0;

        void startAnew() {
            count = 0;
        }

        /** Lets a track take part; tracks come in ascending order. */
        void admit(int track, int weight, int room) {
            if (count < MAX_GRID && weight > 0) {
                tracks[count] = track;
                weights[count] = weight;
                rooms[count] = Math.max(0, room);
                given[count] = 0;
                count++;
            }
        }

        /** Lets all tracks go beyond their bounds from now on. */
        void dropBounds() {
            for (int i = 0; i < count; i++) {
                rooms[i] = NO_BOUND;
            }
        }

        /** Gives whole levels at once and the pixels above them one by one; tells the rest. */
        int pour(int pixels) {
            int rest = pixels - pourLevels(pixels);
            while (rest > 0) {
                int next = nextPlace();
                if (next < 0) {
                    return rest;
                }
                given[next]++;
                rest--;
            }
            return 0;
        }

        /** Gives each track the size that it has with its pixels, where that is greater. */
        void raise(int[] before, int[] sizes) {
            for (int i = 0; i < count; i++) {
                int track = tracks[i];
                if (track >= 0 && track < before.length && track < sizes.length) {
                    sizes[track] = Math.max(sizes[track], before[track] + given[i]);
                }
            }
        }

        /**
         * All pixels up to a level come ahead of all pixels above it, where the level of a pixel
         * is its number in its track divided by the weight: so a level may be given at once.
         */
        private int pourLevels(int pixels) {
            int level = 0;
            for (int step = HIGHEST_STEP; step > 0; step /= 2) {
                if (costOfLevel(level + step) <= pixels) {
                    level += step;
                }
            }
            int cost = 0;
            for (int i = 0; i < count; i++) {
                int more = missingPixels(i, level);
                given[i] += more;
                cost += more;
            }
            return cost;
        }

        private long costOfLevel(int level) {
            long cost = 0;
            for (int i = 0; i < count; i++) {
                cost += missingPixels(i, level);
            }
            return cost;
        }

        private int missingPixels(int i, int level) {
            return Math.max(0, Math.min(rooms[i], weights[i] * level) - given[i]);
        }

        /** Tells the place that the next pixel goes to, or -1 if all have reached their bounds. */
        private int nextPlace() {
            int best = -1;
            for (int i = 0; i < count; i++) {
                if (given[i] < rooms[i] && (best < 0 || isAhead(i, best))) {
                    best = i;
                }
            }
            return best;
        }

        private boolean isAhead(int one, int other) {
            return (given[one] + 1L) * weights[other] < (given[other] + 1L) * weights[one];
        }
    }

    /** The tracks of one axis: which are collapsed, their sizes in all stages, their positions. */
    private static final class AxisLayout {
        private final int axis;
        private final Model model;
        private final Placement placement;
        private final boolean[] isShut = new boolean[MAX_GRID + 1];
        private final int[] bases = new int[MAX_GRID + 1];
        private final int[] limits = new int[MAX_GRID + 1];
        private final int[] grown = new int[MAX_GRID + 1];
        private final int[] shared = new int[MAX_GRID + 1];
        private final int[] stretched = new int[MAX_GRID + 1];
        private final int[] begins = new int[MAX_GRID + 1];
        private int trackCount = 0;
        private int openCount = 0;
        private int gap = 0;
        private int gutters = 0;
        private int axisSize = NONE;
        private int freeSpace = 0;

        AxisLayout(int axis, Model model, Placement placement) {
            this.axis = axis;
            this.model = model;
            this.placement = placement;
        }

        // ---- what it is made of

        int part(int track, int part) {
            return model.trackPart(axis, track, part);
        }

        int itemCount() {
            return model.itemCount;
        }

        int itemField(int item, int field) {
            return model.itemField(item, axis, field);
        }

        int firstTrack(int item) {
            return Math.max(1, placement.firstTrack(item, axis));
        }

        int lastTrack(int item) {
            return Math.min(trackCount, placement.lastTrack(item, axis));
        }

        int guttersWithin(int item) {
            return gap * (itemField(item, SPAN) - 1);
        }

        boolean isFlexible(int track) {
            return part(track, MAX_KIND) == FLEXIBLE;
        }

        boolean isOpen(int track) {
            return track >= 1 && track <= MAX_GRID && !isShut[track];
        }

        boolean isOnFlexible(int item) {
            for (int track = firstTrack(item); track <= lastTrack(item); track++) {
                if (isFlexible(track)) {
                    return true;
                }
            }
            return false;
        }

        // ---- laying out

        void collapseTracks() {
            trackCount = Math.max(0, Math.min(MAX_GRID, placement.trackCount(axis)));
            gap = model.setting(axis, GAP);
            axisSize = model.setting(axis, AXIS_SIZE);
            openCount = 0;
            for (int track = 1; track <= trackCount; track++) {
                isShut[track] = part(track, COLLAPSIBLE) == 1 && !isCovered(track);
                if (!isShut[track]) {
                    openCount++;
                }
            }
            gutters = openCount > 0 ? gap * (openCount - 1) : 0;
        }

        private boolean isCovered(int track) {
            for (int item = 0; item < model.itemCount; item++) {
                if (placement.isAcross(item, axis, track)) {
                    return true;
                }
            }
            return false;
        }

        void growTracks(Filling filling) {
            if (axisSize == NONE) {
                System.arraycopy(limits, 0, grown, 0, grown.length);
                return;
            }
            System.arraycopy(bases, 0, grown, 0, grown.length);
            filling.startAnew();
            for (int track = 1; track <= trackCount; track++) {
                if (isOpen(track)) {
                    filling.admit(track, 1, limits[track] - bases[track]);
                }
            }
            filling.pour(axisSize - sumWithGutters(BASE));
            filling.raise(bases, grown);
        }

        void stretchTracks(Filling filling) {
            System.arraycopy(shared, 0, stretched, 0, stretched.length);
            if (axisSize == NONE || model.setting(axis, CONTENT) != 0) {
                return;
            }
            filling.startAnew();
            for (int track = 1; track <= trackCount; track++) {
                if (isOpen(track) && part(track, MAX_KIND) == AUTO) {
                    filling.admit(track, 1, MAX_AXIS_SIZE);
                }
            }
            filling.pour(axisSize - sumWithGutters(SHARED));
            filling.raise(shared, stretched);
        }

        void findPositions() {
            freeSpace = axisSize == NONE ? 0 : axisSize - sumWithGutters(STRETCHED);
            int ahead = 0;
            int index = 0;
            int end = 0;
            for (int track = 1; track <= trackCount; track++) {
                if (isOpen(track)) {
                    begins[track] = ahead + offset(index);
                    end = begins[track] + stretched[track];
                    ahead += stretched[track] + gap;
                    index++;
                }
            }
            int next = end;
            for (int track = trackCount; track >= 1; track--) {
                if (!isOpen(track)) {
                    begins[track] = next;
                }
                next = begins[track];
            }
        }

        /** Tells how far the free space moves a track that is not collapsed, counted from 0. */
        private int offset(int index) {
            int content = model.setting(axis, CONTENT);
            if (freeSpace < 0 && content > 3) {
                content = content == 4 ? 1 : 3;
            }
            switch (content) {
                case 2: return freeSpace;
                case 3: return Math.floorDiv(freeSpace, 2);
                case 4: return openCount > 1 ? freeSpace * index / (openCount - 1) : 0;
                case 5: return openCount > 0
                    ? freeSpace * (2 * index + 1) / (2 * openCount) : 0;
                case 6: return openCount > 0 ? freeSpace * (index + 1) / (openCount + 1) : 0;
                default: return 0;
            }
        }

        // ---- what it answers

        int trackSize(int track, int stage) {
            int[] sizes = sizesOf(stage);
            return isOpen(track) && track < sizes.length ? sizes[track] : 0;
        }

        private int[] sizesOf(int stage) {
            switch (stage) {
                case BASE: return bases;
                case LIMIT: return limits;
                case GROWN: return grown;
                case SHARED: return shared;
                default: return stretched;
            }
        }

        int sumWithGutters(int stage) {
            int sum = gutters;
            for (int track = 1; track <= trackCount; track++) {
                sum += trackSize(track, stage);
            }
            return sum;
        }

        int trackBegin(int track) {
            return track >= 1 && track <= MAX_GRID ? begins[track] : 0;
        }

        int areaBegin(int item) {
            return trackBegin(firstTrack(item));
        }

        int areaSize(int item) {
            int last = lastTrack(item);
            return trackBegin(last) + trackSize(last, STRETCHED) - areaBegin(item);
        }

        int boxSize(int item) {
            int area = areaSize(item);
            if (itemField(item, ALIGNMENT) == 0) {
                return area;
            }
            int atMost = Math.min(area, itemField(item, LARGE_SIZE));
            return Math.max(atMost, itemField(item, SMALL_SIZE));
        }

        int boxBegin(int item) {
            int left = areaSize(item) - boxSize(item);
            switch (itemField(item, ALIGNMENT)) {
                case 2: return areaBegin(item) + left;
                case 3: return areaBegin(item) + Math.floorDiv(left, 2);
                default: return areaBegin(item);
            }
        }

        boolean isInBox(int item, int point) {
            int begin = boxBegin(item);
            return begin <= point && point < begin + boxSize(item);
        }
    }

    /** Fills the contributions of items into base sizes and limits, group by group. */
    private static final class Contributions {
        // Groups 1 to 4 are the spans of items that cover no flexible track.
        private static final int LAST_GROUP = MAX_SPAN + 1;

        private final Filling filling;
        private final int[] before = new int[MAX_GRID + 1];
        private final int[] groups = new int[MAX_ITEMS];

        Contributions(Filling filling) {
            this.filling = filling;
        }

        void findBases(AxisLayout layout) {
            Arrays.fill(layout.bases, 0);
            for (int track = 1; track <= layout.trackCount; track++) {
                if (layout.isOpen(track) && layout.part(track, MIN_KIND) == FIXED) {
                    layout.bases[track] = layout.part(track, MIN_VALUE);
                }
            }
            findGroups(layout);
            for (int group = 1; group <= LAST_GROUP; group++) {
                processGroup(layout, group, BASE, false);
                processGroup(layout, group, BASE, true);
            }
        }

        void findLimits(AxisLayout layout) {
            System.arraycopy(layout.bases, 0, layout.limits, 0, layout.limits.length);
            for (int track = 1; track <= layout.trackCount; track++) {
                if (layout.isOpen(track) && layout.part(track, MAX_KIND) == FIXED) {
                    int value = layout.part(track, MAX_VALUE);
                    layout.limits[track] = Math.max(layout.bases[track], value);
                }
            }
            for (int group = 1; group < LAST_GROUP; group++) {
                processGroup(layout, group, LIMIT, false);
                processGroup(layout, group, LIMIT, true);
            }
        }

        private void findGroups(AxisLayout layout) {
            for (int item = 0; item < layout.itemCount() && item < MAX_ITEMS; item++) {
                boolean isLast = layout.isOnFlexible(item);
                groups[item] = isLast ? LAST_GROUP : layout.itemField(item, SPAN);
            }
        }

        /** Each item fills the sizes as they were before; the greatest of all results stays. */
        private void processGroup(AxisLayout layout, int group, int stage, boolean isLarge) {
            int[] sizes = stage == BASE ? layout.bases : layout.limits;
            System.arraycopy(sizes, 0, before, 0, before.length);
            for (int item = 0; item < layout.itemCount() && item < MAX_ITEMS; item++) {
                int wanted = layout.itemField(item, isLarge ? LARGE_SIZE : SMALL_SIZE);
                if (groups[item] == group && wanted > spaceOf(layout, item)) {
                    admitTracks(layout, item, stage, isLarge);
                    int rest = filling.pour(wanted - spaceOf(layout, item));
                    if (stage == BASE && rest > 0) {
                        filling.dropBounds();
                        filling.pour(rest);
                    }
                    filling.raise(before, sizes);
                }
            }
        }

        private int spaceOf(AxisLayout layout, int item) {
            int space = layout.guttersWithin(item);
            for (int track = layout.firstTrack(item); track <= layout.lastTrack(item); track++) {
                space += before[track];
            }
            return space;
        }

        private void admitTracks(AxisLayout layout, int item, int stage, boolean isLarge) {
            boolean isLast = groups[item] == LAST_GROUP;
            filling.startAnew();
            for (int track = layout.firstTrack(item); track <= layout.lastTrack(item); track++) {
                boolean isAsked = stage == BASE
                    ? isBaseAsked(layout, track, isLarge) : isLimitAsked(layout, track, isLarge);
                if (isAsked && (!isLast || layout.isFlexible(track))) {
                    int weight = isLast ? layout.part(track, MAX_VALUE) : 1;
                    filling.admit(track, weight, roomOf(layout, track, stage));
                }
            }
        }

        private boolean isBaseAsked(AxisLayout layout, int track, boolean isLarge) {
            int kind = layout.part(track, MIN_KIND);
            return isLarge ? kind == LARGE : kind != FIXED;
        }

        private boolean isLimitAsked(AxisLayout layout, int track, boolean isLarge) {
            int kind = layout.part(track, MAX_KIND);
            return kind != FIXED && kind != FLEXIBLE && !(isLarge && kind == SMALL);
        }

        /** Only a fixed maximum bounds a base size, and only a fitting one a limit. */
        private int roomOf(AxisLayout layout, int track, int stage) {
            int bounding = stage == BASE ? FIXED : FITTING;
            if (layout.part(track, MAX_KIND) != bounding) {
                return Filling.NO_BOUND;
            }
            int least = stage == BASE ? before[track] : layout.bases[track];
            return Math.max(layout.part(track, MAX_VALUE), least) - before[track];
        }
    }

    /** Shares out the size of an axis, or what its contents ask for, by the factors of tracks. */
    private static final class Fractions {
        private final boolean[] isActive = new boolean[MAX_GRID + 1];
        private final long[] remainders = new long[MAX_GRID + 1];
        private long leftover = 0;
        private long factorSum = 0;
        private long unitTop = 0;
        private long unitBottom = 1;

        void shareOut(AxisLayout layout) {
            System.arraycopy(layout.grown, 0, layout.shared, 0, layout.shared.length);
            for (int track = 1; track <= layout.trackCount; track++) {
                isActive[track] = layout.isOpen(track) && layout.isFlexible(track);
            }
            if (layout.axisSize == NONE) {
                findUnit(layout);
                shareByUnit(layout);
            } else {
                findActiveTracks(layout);
                shareLeftover(layout);
            }
        }

        private void findActiveTracks(AxisLayout layout) {
            boolean hasStopped = true;
            for (int turn = 0; turn <= MAX_GRID && hasStopped; turn++) {
                findLeftover(layout);
                hasStopped = stopLargeTracks(layout);
            }
        }

        private void findLeftover(AxisLayout layout) {
            leftover = layout.axisSize - layout.gutters;
            factorSum = 0;
            for (int track = 1; track <= layout.trackCount; track++) {
                if (isActive[track]) {
                    factorSum += layout.part(track, MAX_VALUE);
                } else {
                    leftover -= layout.trackSize(track, GROWN);
                }
            }
        }

        private boolean stopLargeTracks(AxisLayout layout) {
            boolean hasStopped = false;
            for (int track = 1; track <= layout.trackCount; track++) {
                long share = leftover * layout.part(track, MAX_VALUE);
                if (isActive[track] && layout.grown[track] * factorSum > share) {
                    isActive[track] = false;
                    hasStopped = true;
                }
            }
            return hasStopped;
        }

        private void shareLeftover(AxisLayout layout) {
            if (factorSum <= 0) {
                return;
            }
            long rest = leftover;
            for (int track = 1; track <= layout.trackCount; track++) {
                remainders[track] = -1;
                if (isActive[track]) {
                    long share = leftover * layout.part(track, MAX_VALUE);
                    layout.shared[track] = (int) (share / factorSum);
                    remainders[track] = share % factorSum;
                    rest -= layout.shared[track];
                }
            }
            for (int turn = 0; turn < layout.trackCount && rest > 0; turn++) {
                int track = takeGreatestRemainder(layout.trackCount);
                if (track > 0) {
                    layout.shared[track]++;
                    rest--;
                }
            }
        }

        /** Tells the lowest track with the greatest remainder, which counts no more; or 0. */
        private int takeGreatestRemainder(int trackCount) {
            int best = 0;
            for (int track = 1; track <= trackCount; track++) {
                if (remainders[track] >= 0 && (best == 0 || remainders[track] > remainders[best])) {
                    best = track;
                }
            }
            remainders[best] = -1;
            return best;
        }

        private void findUnit(AxisLayout layout) {
            unitTop = 0;
            unitBottom = 1;
            for (int track = 1; track <= layout.trackCount; track++) {
                if (isActive[track]) {
                    raiseUnit(layout.grown[track], layout.part(track, MAX_VALUE));
                }
            }
            for (int item = 0; item < layout.itemCount(); item++) {
                int excess = layout.itemField(item, LARGE_SIZE) - layout.guttersWithin(item);
                int factors = 0;
                int last = layout.lastTrack(item);
                for (int track = layout.firstTrack(item); track <= last; track++) {
                    if (isActive[track]) {
                        factors += layout.part(track, MAX_VALUE);
                    } else {
                        excess -= layout.grown[track];
                    }
                }
                raiseUnit(excess, factors);
            }
        }

        private void raiseUnit(long top, long bottom) {
            if (bottom > 0 && top * unitBottom > unitTop * bottom) {
                unitTop = top;
                unitBottom = bottom;
            }
        }

        private void shareByUnit(AxisLayout layout) {
            if (unitBottom <= 0) {
                return;
            }
            for (int track = 1; track <= layout.trackCount; track++) {
                if (isActive[track]) {
                    long share = layout.part(track, MAX_VALUE) * unitTop;
                    int needed = (int) ((share + unitBottom - 1) / unitBottom);
                    layout.shared[track] = Math.max(layout.grown[track], needed);
                }
            }
        }
    }
}
