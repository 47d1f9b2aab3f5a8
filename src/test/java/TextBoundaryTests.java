import java.util.NoSuchElementException;

/**
 * The sentences of the document that name a boundary case of the input buffer, of texts and of
 * tracks (promises 1 to 5): each test quotes its sentence.
 */
public final class TextBoundaryTests {
    private static final Class<IllegalArgumentException> REFUSED = IllegalArgumentException.class;
    private static final Class<IllegalStateException> STATE = IllegalStateException.class;
    private static final Class<IndexOutOfBoundsException> MISSING =
        IndexOutOfBoundsException.class;
    private static final int[] NO_AXES = {-1, 2, Integer.MIN_VALUE, Integer.MAX_VALUE};

    public static void main(String[] args) {
        newObjectIsEmpty();
        newObjectHasNothingToTakeBackOrRestore();
        newObjectHasItsFirstSettings();
        feedTakes120Characters();
        feedTakesAnyCharacter();
        axesHave0To12ExplicitTracks();
        tracksBeyondTheExplicitOnesAreImplicit();
        fixedValuesGoFrom0To999();
        factorsBeginAt1();
        numbersHaveThreeDigitsAtMost();
        numbersCanBeginWithZeros();
        wordsStandForMinimumAndMaximum();
        questionMarksComeOnceBehindASimpleTrack();
        repeatsCanMakeNoCopy();
        fourRepeatsMayBeOpen();
        errorPositionIsTheFirstCharacterThatCannotContinue();
        errorPositionIsTheLengthOfATextThatEndsTooEarly();
        errorPositionsGoFrom0To120();
        onlyAWholeTextCanBeEmpty();
        factor0IsRefused();
        factor0IsLookedAtBehindSyntaxAndAheadOfTheNumber();
        readTracksReplacesTheEarlierOnes();
        readTracksEmptiesTheBuffer();
        readTracksLeavesTheRest();
        readTracksNeedsAnAxis();
        readImplicitTakesTheFirstTrackThereIs();
        readImplicitOf0TracksLeavesTheDefinition();
        readImplicitEmptiesTheBuffer();
        readImplicitLeavesTheRest();
        readImplicitNeedsAnAxis();
        definitionOfTracksFrom1ToTheLast();
        definitionOfParts0To4();
        definitionNamesAxisAndPartAheadOfTheTrack();
        Check.finish("TextBoundaryTests");
    }

    private static long read(String text) {
        GridEngine grid = new GridEngine();
        Check.feed(grid, text);
        return grid.readTracks(0);
    }

    private static void readAs(String text, long want) {
        Check.due("reading \"" + text + "\"", want, () -> read(text));
    }

    private static void readThrows(String text, Class<? extends RuntimeException> want) {
        Check.thrown("reading \"" + text + "\"", want, () -> read(text));
    }

    /** The text is one track with these parts. */
    private static void readDefinition(String text, int... parts) {
        readAs(text, 1);
        define(text, Check.grid(text, ""), 0, 1, parts);
    }

    private static void define(String what, GridEngine grid, int axis, int track, int... parts) {
        for (int part = 0; part < parts.length; part++) {
            int p = part;
            Check.due(what + ": part " + p + " of track " + track, parts[p],
                () -> grid.definition(axis, track, p));
        }
    }

    private static String times(String text, int count) {
        return text.repeat(count);
    }

    // ---- promise 1

    // Promise 1: "Creates an empty grid." Tracks: "at first none".
    private static void newObjectIsEmpty() {
        GridEngine grid = new GridEngine();
        Check.due("items", 0, () -> grid.items());
        for (int what = 0; what < 3; what++) {
            int w = what;
            Check.due("cells " + w, 0, () -> grid.cells(w));
        }
        for (int axis = 0; axis < 2; axis++) {
            int a = axis;
            Check.due("tracks", 0, () -> grid.tracks(a));
            Check.due("free", 0, () -> grid.free(a));
            Check.due("unmet, small", 0, () -> grid.unmet(a, false));
            Check.due("unmet, large", 0, () -> grid.unmet(a, true));
            for (int stage = 1; stage <= 5; stage++) {
                int s = stage;
                Check.due("total in stage " + s, 0, () -> grid.total(a, s));
                Check.thrown("size in stage " + s, MISSING, () -> grid.size(a, 1, s));
            }
            Check.thrown("position", MISSING, () -> grid.position(a, 1));
            Check.thrown("isCollapsed", MISSING, () -> grid.isCollapsed(a, 1) ? 1 : 0);
            Check.thrown("definition", MISSING, () -> grid.definition(a, 1, 0));
            Check.thrown("startOf", MISSING, () -> grid.startOf(0, a));
            Check.thrown("box", MISSING, () -> grid.box(0, a, 0));
        }
        Check.thrown("itemIn", MISSING, () -> grid.itemIn(1, 1));
        Check.thrown("itemUnder", NoSuchElementException.class, () -> grid.itemUnder(0, 0));
        Check.due("the buffer is empty", 1, () -> grid.feed('x'));
    }

    // Promise 1: "Creates an empty grid." Nothing has been changed, and no slot holds anything.
    private static void newObjectHasNothingToTakeBackOrRestore() {
        Check.thrown("undo", STATE, () -> new GridEngine().undo());
        for (int slot = 0; slot < 3; slot++) {
            int s = slot;
            Check.thrown("restore", STATE, () -> new GridEngine().restore(s));
        }
    }

    // Sizing 3: "a size from 0 to 9999, or none, as at first". Collapsing: "The gap is [..] at
    // first 0." Positions: "at first 0". Placement: "The flow is 0, by rows, at first", "it is
    // sparse at first".
    private static void newObjectHasItsFirstSettings() {
        for (int axis = 0; axis < 2; axis++) {
            int a = axis;
            Check.due("size", GridEngine.NONE, () -> new GridEngine().set(a, 0, 1));
            Check.due("gap", 0, () -> new GridEngine().set(a, 1, 1));
            Check.due("content alignment", 0, () -> new GridEngine().set(a, 2, 1));
        }
        Check.due("flow", 0, () -> new GridEngine().setFlow(1, true));
    }

    // ---- promise 2

    // Promise 2: "Throws IllegalStateException if the buffer already holds 120 characters", and
    // "Returns the number of characters in the buffer."
    private static void feedTakes120Characters() {
        GridEngine grid = new GridEngine();
        String text = "repeat(0," + times("1 ", 54) + "22)";
        Check.due("the length of the text", 120, () -> text.length());
        for (int i = 0; i < 120; i++) {
            int count = i + 1;
            Check.due("feed", count, () -> grid.feed(text.charAt(count - 1)));
        }
        Check.thrown("feed beyond 120", STATE, () -> grid.feed('#'));
        Check.thrown("feed beyond 120 again", STATE, () -> grid.feed('#'));
        Check.due("the refused letters are not kept", 0, () -> grid.readTracks(0));
        Check.due("the count begins anew", 1, () -> grid.feed('1'));
        String nearly = text.substring(0, 119);
        GridEngine almost = Refusal.richGrid(nearly);
        Check.due("feed of the last that is taken", 120, () -> almost.feed(')'));
        Refusal.thrown("feed into the full buffer", STATE, () -> Refusal.richGrid(text),
            g -> g.feed('1'));
    }

    // Promise 2: "letter: any character"
    private static void feedTakesAnyCharacter() {
        char[] letters = {0, 1, ' ', '~', 127, 128, 255, 256, 0xd800, 0xdfff, 0xfffe, 0xffff};
        GridEngine grid = new GridEngine();
        for (int i = 0; i < letters.length; i++) {
            int at = i;
            Check.due("feed", at + 1, () -> grid.feed(letters[at]));
        }
        Check.due("none of these begins a text", -100, () -> grid.readTracks(0));
        // Digits of other scripts, and what only looks like a sign of the form.
        for (char letter : new char[] {0x0661, 0xff11, 0x00a0, 0xff1f, 0x0131, 9, 10}) {
            readAs("1" + letter, -101);
        }
    }

    // ---- tracks, read by promises 3 and 4, told by promises 5 and 15

    // Tracks: "Each axis has a list of 0 to 12 explicit tracks". Promise 3: "Throws
    // IllegalStateException if there would be more than 12 tracks"
    private static void axesHave0To12ExplicitTracks() {
        readAs("", 0);
        readAs("1", 1);
        readAs("1" + times(" 1", 11), 12);
        readThrows("1" + times(" 1", 12), STATE);
        readAs("repeat(12,1)", 12);
        readThrows("repeat(13,1)", STATE);
        readAs("repeat(4,1 2 3)", 12);
        readThrows("repeat(4,1 2 3) 4", STATE);
        readThrows("4 repeat(4,1 2 3)", STATE);
        readAs("repeat(0,1) repeat(12,1)", 12);
        readThrows("repeat(999,repeat(999,repeat(999,repeat(999,1))))", STATE);
        for (int axis = 0; axis < 2; axis++) {
            int a = axis;
            GridEngine grid = Check.grid("repeat(12,7)", "repeat(12,7)");
            Check.due("12 tracks", 12, () -> grid.tracks(a));
            Check.due("the twelfth", 7, () -> grid.definition(a, 12, 1));
            Check.due("no tracks again", 0, () -> grid.readTracks(a));
            Check.due("none", 0, () -> grid.tracks(a));
        }
    }

    // Tracks: "a definition for implicit tracks, at first auto", and "Tracks of the grid beyond
    // the explicit ones are implicit ones."
    private static void tracksBeyondTheExplicitOnesAreImplicit() {
        GridEngine grid = Check.grid("7 8", "");
        grid.addItem(1, 1, 1, 1);
        grid.place(0, 0, 3, 2);
        define("the last explicit one", grid, 0, 2, 0, 8, 0, 8, 0);
        define("the first implicit one", grid, 0, 3, 1, 0, 3, 0, 0);
        define("the last implicit one", grid, 0, 4, 1, 0, 3, 0, 0);
        define("the other axis", grid, 1, 1, 1, 0, 3, 0, 0);
        Check.feed(grid, "repeat(12,5)");
        grid.readTracks(0);
        grid.place(0, 0, 12, 4);
        define("the twelfth of 12", grid, 0, 12, 0, 5, 0, 5, 0);
        define("behind 12", grid, 0, 13, 1, 0, 3, 0, 0);
        define("the last of all", grid, 0, 15, 1, 0, 3, 0, 0);
    }

    // Tracks: "The minimum is fixed with a value from 0 to 999", "The maximum is fixed with a
    // value from 0 to 999", "fitting with a limit from 0 to 999".
    private static void fixedValuesGoFrom0To999() {
        readDefinition("0", 0, 0, 0, 0, 0);
        readDefinition("999", 0, 999, 0, 999, 0);
        readDefinition("minmax(0,999)", 0, 0, 0, 999, 0);
        readDefinition("minmax(999,0)", 0, 999, 0, 0, 0);
        readDefinition("fit(0)", 1, 0, 4, 0, 0);
        readDefinition("fit(999)", 1, 0, 4, 999, 0);
        readAs("1000", -103);
        readAs("minmax(1000,1)", -110);
        readAs("minmax(1,1000)", -112);
        readAs("fit(1000)", -107);
        readAs("-1", -100);
        readAs("minmax(-1,1)", -107);
        readAs("minmax(1,-1)", -109);
        readAs("fit(-1)", -104);
    }

    // Tracks: "flexible with a factor from 1 to 99". The form takes three digits, and the promises
    // refuse a factor 0 alone; so 100 to 999 are read as they stand (NOTES.md).
    private static void factorsBeginAt1() {
        readDefinition("1fr", 1, 0, 5, 1, 0);
        readDefinition("99fr", 1, 0, 5, 99, 0);
        readDefinition("minmax(2,1fr)", 0, 2, 5, 1, 0);
        readDefinition("minmax(max,99fr)", 2, 0, 5, 99, 0);
        readThrows("0fr", REFUSED);
        readThrows("minmax(2,0fr)", REFUSED);
        readDefinition("100fr", 1, 0, 5, 100, 0);
        readAs("1000fr", -103);
    }

    // ---- texts, read by promises 3 and 4

    // Texts: "A number consists of as many digits as follow one another, but of 3 at most."
    // Details: "a fourth digit cannot continue a text."
    private static void numbersHaveThreeDigitsAtMost() {
        String[][] places = {{"", ""}, {"", "fr"}, {"fit(", ")"}, {"minmax(", ",5)"},
            {"minmax(5,", ")"}, {"minmax(5,", "fr)"}, {"repeat(", ",1)"}};
        for (String[] place : places) {
            int start = place[0].length();
            for (String digits : new String[] {"1", "01", "001"}) {
                readAs(place[0] + digits + place[1], 1);
            }
            for (String digits : new String[] {"0001", "1000", "0000", "12345"}) {
                readAs(place[0] + digits + place[1], -100 - start - 3);
            }
        }
        readAs("fit()", -104);
        readAs("minmax(,5)", -107);
        readAs("minmax(5,)", -109);
        readAs("minmax(5,fr)", -109);
        readAs("repeat(,1)", -107);
        readAs("fr", -101);
        readDefinition("12", 0, 12, 0, 12, 0);
        readDefinition("123", 0, 123, 0, 123, 0);
        readAs("1 23", 2);
        readAs("/", -100);
        readAs(":", -100);
        readAs("1/", -101);
        readAs("1:", -101);
    }

    // Details: "A number can have zeros at its beginning".
    private static void numbersCanBeginWithZeros() {
        readDefinition("000", 0, 0, 0, 0, 0);
        readDefinition("007", 0, 7, 0, 7, 0);
        readDefinition("070", 0, 70, 0, 70, 0);
        readDefinition("009fr", 1, 0, 5, 9, 0);
        readDefinition("fit(01)", 1, 0, 4, 1, 0);
        readDefinition("minmax(00,010)", 0, 0, 0, 10, 0);
        readAs("repeat(002,1)", 2);
        readAs("repeat(000,1)", 0);
    }

    // Texts: "As a track, a number means [..]. As a minimum, auto and min mean small, and max
    // means large. As a maximum, auto means auto, min small, and max large."
    private static void wordsStandForMinimumAndMaximum() {
        readDefinition("auto", 1, 0, 3, 0, 0);
        readDefinition("min", 1, 0, 1, 0, 0);
        readDefinition("max", 2, 0, 2, 0, 0);
        readDefinition("minmax(auto,auto)", 1, 0, 3, 0, 0);
        readDefinition("minmax(min,min)", 1, 0, 1, 0, 0);
        readDefinition("minmax(max,max)", 2, 0, 2, 0, 0);
        readDefinition("minmax(auto,3fr)", 1, 0, 5, 3, 0);
        readAs("minmax(3fr,auto)", -108);
        readAs("minmax(fit(3),auto)", -107);
        readAs("minmax(auto,fit(3))", -112);
        readAs("minmax(minmax(1,2),3)", -110);
        readAs("minmax(repeat(1,2),3)", -107);
    }

    // Texts: "track = simple [ "?" ]", "The question mark makes a definition collapsible."
    private static void questionMarksComeOnceBehindASimpleTrack() {
        readDefinition("5?", 0, 5, 0, 5, 1);
        readDefinition("2fr?", 1, 0, 5, 2, 1);
        readDefinition("fit(3)?", 1, 0, 4, 3, 1);
        readDefinition("minmax(1,2)?", 0, 1, 0, 2, 1);
        readDefinition("repeat(1,max?)", 2, 0, 2, 0, 1);
        readAs("5??", -102);
        readAs("?", -100);
        readAs("5 ?", -102);
        readAs("repeat(1,5)?", -111);
        readAs("minmax(1?,2)", -108);
        readAs("minmax(1,2?)", -110);
        GridEngine grid = Check.grid("5 5? 5", "");
        for (int track = 1; track <= 3; track++) {
            int t = track;
            Check.due("collapsible", t == 2 ? 1 : 0, () -> grid.definition(0, t, 4));
        }
    }

    // Texts: "repeat stands for as many copies of the list as the number tells, possibly none."
    private static void repeatsCanMakeNoCopy() {
        readAs("repeat(0,5)", 0);
        readAs("repeat(1,5)", 1);
        readAs("repeat(2,5)", 2);
        readAs("repeat(0,repeat(999,5))", 0);
        readAs("repeat(999,repeat(0,5))", 0);
        readAs("repeat(0,repeat(13,5)) 6", 1);
        readAs("repeat(0,5) repeat(0,6)", 0);
        readAs("repeat(3,repeat(0,5) 6)", 3);
        // More than 12 tracks that none of the copies keeps, behind some that are kept.
        readAs("repeat(11,1) repeat(0,repeat(9,2 3)) 4", 12);
        readThrows("repeat(12,1) repeat(0,repeat(9,2 3)) 4", STATE);
        GridEngine grid = Check.grid("1 repeat(2,2 repeat(0,9) 3?) repeat(0,8) 4", "");
        int[] want = {1, 2, 3, 2, 3, 4};
        Check.due("tracks", 6, () -> grid.tracks(0));
        for (int track = 1; track <= 6; track++) {
            int t = track;
            Check.due("the copies are whole and in order", want[t - 1],
                () -> grid.definition(0, t, 1));
        }
    }

    // Texts: "At most 4 repeats may be open at the same time", "the bracket of a fifth repeat
    // cannot continue a text."
    private static void fourRepeatsMayBeOpen() {
        String open = times("repeat(1,", 4);
        readAs(open + "5))))", 1);
        readAs(open + "repeat(1,5)))))", -100 - 36 - 6);
        readAs(open + "5 repeat(1,5)))))", -100 - 36 - 8);
        readAs(open + "repeat", -100 - 36 - 6);
        readAs(open + "repea#", -100 - 36 - 5);
        readAs(open + "repeat#", -100 - 36 - 6);
        readAs(open + "repeat5))))", -100 - 36 - 6);
        readAs(open + "repeatrepeat(1,5)))))", -100 - 36 - 6);
        readAs("repeat(1,repeat(1,repeat(1,5)))", 1);
        readAs(open + "5) repeat(1,6)))) 7", 3);
        readAs(open + "5) repeat(1,6) repeat(1,repeat(1,7)))))", -100 - 36 - 3 - 12 - 15);
        readAs(open + "5)))) " + open + "6))))", 2);
        readAs("repeat(1,5)" + times(" repeat(1,5)", 4), 5);
        readAs("repeat(0,repeat(0,repeat(0,repeat(0,repeat(0,1)))))", -100 - 36 - 6);
        // Those that a text leaves open at its end are not open in the next one.
        GridEngine grid = new GridEngine();
        for (String text : new String[] {open + "5", open + "repeat", open + "x", "repeat(2,7"}) {
            Check.feed(grid, text);
            grid.readTracks(0);
            Check.feed(grid, "5)");
            Check.due("none is open behind " + text, -101, () -> grid.readTracks(0));
            Check.feed(grid, open + "5))))");
            Check.due("four may be open again", 1, () -> grid.readTracks(0));
        }
    }

    // Texts: "The error position is the offset, from 0, of the first character that cannot
    // continue such a text". Each offset of these texts, once with a sign that no text has there.
    private static void errorPositionIsTheFirstCharacterThatCannotContinue() {
        String[] texts = {"10? 2fr fit(40)? auto min max?", "minmax(7,5fr) minmax(auto,max)? 3",
            "minmax(min,12) minmax(max,auto) minmax(5,min)?",
            "repeat(2,auto repeat(13,fit(4)? 1fr) max) repeat(0,9)"};
        for (String text : texts) {
            for (int length = 0; length <= text.length(); length++) {
                readAs(text.substring(0, length) + "#", -100 - length);
                readAs(text.substring(0, length) + "#0fr", -100 - length);
            }
        }
        readAs("10 x", -103);
        readAs("10,20", -102);
        readAs("5)", -101);
        readAs("repeat(1,5))", -111);
        readAs("autO", -103);
        readAs("1 fr", -103);
        readAs("minmax (1,2)", -106);
        readAs("minmax(1, 2)", -109);
        readAs("minmax(1,2 )", -110);
        readAs("repeat(1, 5)", -109);
        readAs("repeat(1,5 )", -111);
        readAs("repeat(1,5)6", -111);
        readAs("5\t6", -101);
    }

    // Texts: "or the length of the text if it ends too early". An x stands below each character
    // behind which the text can end.
    private static void errorPositionIsTheLengthOfATextThatEndsTooEarly() {
        String[][] texts = {
            {"10? 2fr fit(4)? auto?",
             "xxx x x      xx    xx"},
            {"min max? minmax(7,5fr)? 123",
             "  x   xx   x         xx xxx"},
            {"minmax(auto,max) minmax(max,min)",
             "  x            x   x           x"},
            {"repeat(2,1 repeat(0,5 max) 9) 8",
             "                            x x"}};
        for (String[] pair : texts) {
            Check.due("the marks of " + pair[0], pair[0].length(), () -> pair[1].length());
            for (int length = 1; length <= pair[0].length(); length++) {
                String text = pair[0].substring(0, length);
                boolean canEnd = pair[1].charAt(length - 1) == 'x';
                boolean isRead = read(text) >= 0;
                Check.due("\"" + text + "\" can end", canEnd, isRead);
                if (!canEnd) {
                    readAs(text, -100 - length);
                }
            }
        }
    }

    // Promise 3: "-100 minus the error position after a syntax error." The least position is 0,
    // the greatest the length of a full buffer.
    private static void errorPositionsGoFrom0To120() {
        readAs("#", -100);
        String early = times("11 ", 40);
        Check.due("length", 120, () -> early.length());
        readAs(early, -220);
        readAs(early.substring(0, 119) + "#", -219);
        readThrows(early.substring(0, 119), STATE);
    }

    // Details: "Only a whole text can be empty."
    private static void onlyAWholeTextCanBeEmpty() {
        readAs("", 0);
        readAs(" ", -100);
        readAs(" 5", -100);
        readAs("5 ", -102);
        readAs("5  6", -102);
        readAs("repeat(2,)", -109);
        readAs("repeat(0,)", -109);
        readAs("repeat(2, 5)", -109);
        readAs("repeat(2,repeat(2,))", -118);
        readAs("repeat(2,5 )", -111);
    }

    // Details: "A factor 0 in a text is refused, even within a repeat that makes no copy of it".
    private static void factor0IsRefused() {
        for (String text : new String[] {"0fr", "00fr", "000fr", "0fr?", "1fr 0fr", "0fr 1fr",
                "minmax(5,0fr)", "minmax(auto,000fr)?", "repeat(2,0fr)", "repeat(0,0fr)",
                "repeat(0,repeat(0,5 0fr)) 7", "repeat(0,minmax(1,0fr))"}) {
            readThrows(text, REFUSED);
        }
        readAs("10fr", 1);
        readAs("010fr", 1);
        readAs("0 1fr", 2);
        readAs("repeat(0,1fr)", 0);
        readAs("fit(0)", 1);
    }

    // Details: "this is looked at ahead of the number of tracks." Promise 3: "if the text is
    // correct and has a factor 0"
    private static void factor0IsLookedAtBehindSyntaxAndAheadOfTheNumber() {
        readThrows("repeat(13,0fr)", REFUSED);
        readThrows("repeat(13,1) 0fr", REFUSED);
        readThrows("repeat(13,1) repeat(0,0fr)", REFUSED);
        readThrows("0fr repeat(12,1)", REFUSED);
        readAs("0fr ", -104);
        readAs("0fr x", -104);
        readAs("0f", -102);
        readAs("repeat(13,1", -111);
        readAs("repeat(13,0fr", -113);
        readAs("repeat(13,1) x", -113);
    }

    // ---- promise 3

    // Promise 3: "Parses the input buffer as a list of tracks, which become the explicit tracks of
    // an axis, in place of the earlier ones. An empty text means that there are none."
    private static void readTracksReplacesTheEarlierOnes() {
        GridEngine grid = Check.grid("1 2 3", "4 5");
        Check.feed(grid, "9");
        Check.due("fewer", 1, () -> grid.readTracks(0));
        Check.sizes("fewer", grid, 0, 1, 9);
        Check.sizes("the other axis", grid, 1, 1, 4, 5);
        Check.feed(grid, "7 8 9");
        Check.due("more", 3, () -> grid.readTracks(1));
        Check.sizes("more", grid, 1, 1, 7, 8, 9);
        Check.due("an empty text", 0, () -> grid.readTracks(1));
        Check.due("there are none", 0, () -> grid.tracks(1));
        Check.feed(grid, "repeat(0,5)");
        Check.due("a text without tracks", 0, () -> grid.readTracks(0));
        Check.due("there are none", 0, () -> grid.tracks(0));
    }

    // Promise 3: "The buffer is empty afterwards, also after an error or an exception, but not if
    // there is no such axis."
    private static void readTracksEmptiesTheBuffer() {
        for (int axis = 0; axis < 2; axis++) {
            int a = axis;
            for (String text : new String[] {"", "5", "5 x", "0fr", "repeat(13,5)"}) {
                GridEngine grid = new GridEngine();
                Check.feed(grid, text);
                answerOrNot(() -> grid.readTracks(a));
                Check.due("the buffer behind \"" + text + "\"", 1, () -> grid.feed('6'));
                Check.due("only the new letter is read", 1, () -> grid.readTracks(a));
                Check.due("it is a track", 6, () -> grid.definition(a, 1, 1));
            }
            GridEngine longer = new GridEngine();
            Check.feed(longer, "555 66");
            longer.readTracks(a);
            Check.feed(longer, "7");
            Check.due("a shorter text", 1, () -> longer.readTracks(a));
            Check.due("no digit of the longer one", 7, () -> longer.definition(a, 1, 1));
        }
    }

    /** Makes a call of which another test tells how it ends. */
    private static void answerOrNot(Check.Call call) {
        try {
            call.answer();
        } catch (IllegalArgumentException | IllegalStateException expected) {
            return;
        }
    }

    // Description: "A method that throws an exception or returns an error code leaves the state
    // unchanged, unless its description says otherwise": all but the buffer stays.
    private static void readTracksLeavesTheRest() {
        String[][] rows = {{"5 x", "-102"}, {"x", "-100"}, {"5 ", "-102"},
            {"0fr", "IllegalArgumentException"}, {"repeat(13,0fr)", "IllegalArgumentException"},
            {"repeat(13,5)", "IllegalStateException"}};
        for (String[] row : rows) {
            for (int axis = 0; axis < 2; axis++) {
                int a = axis;
                Refusal.leaves("readTracks of " + row[0], row[1], () -> Refusal.richGrid(row[0]),
                    () -> Refusal.richGrid(""), grid -> grid.readTracks(a));
            }
        }
    }

    // Promise 3: "Throws IllegalArgumentException if there is no such axis"; then the buffer stays
    // too, whatever it holds.
    private static void readTracksNeedsAnAxis() {
        for (int axis : NO_AXES) {
            for (String text : new String[] {"", "1 2", "x", "0fr", "repeat(13,1)"}) {
                Refusal.thrown("readTracks of " + text + " on axis " + axis, REFUSED,
                    () -> Refusal.richGrid(text), grid -> grid.readTracks(axis));
            }
        }
    }

    // ---- promise 4

    // Promise 4: "Makes the first track of the text [..] the definition for implicit tracks."
    // Details: "The first track of a text for implicit tracks is the first one that there is
    // behind repeating." Promise 4: "Returns the number of tracks of the text".
    private static void readImplicitTakesTheFirstTrackThereIs() {
        Object[][] rows = {{"5", 1, 5}, {"6 7", 2, 6}, {"repeat(0,8) 9", 1, 9},
            {"repeat(0,1) repeat(2,repeat(0,2) 3 4)", 4, 3}, {"repeat(12,10)", 12, 10},
            {"repeat(0,repeat(13,1)) 2", 1, 2}};
        for (Object[] row : rows) {
            for (int axis = 0; axis < 2; axis++) {
                int a = axis;
                GridEngine grid = new GridEngine();
                grid.addItem(1, 1, 1, 1);
                Check.feed(grid, (String) row[0]);
                Check.due("readImplicit of " + row[0], (int) row[1], () -> grid.readImplicit(a));
                Check.due("its first track", (int) row[2], () -> grid.definition(a, 1, 1));
                Check.due("the other axis", 3, () -> grid.definition(1 - a, 1, 2));
                Check.due("no explicit tracks", 1, () -> grid.tracks(a));
            }
        }
    }

    // Promise 4: "if it is 0, the definition stays"; promise 29: a change is "readImplicit with at
    // least one track".
    private static void readImplicitOf0TracksLeavesTheDefinition() {
        for (String text : new String[] {"", "repeat(0,5)", "repeat(9,repeat(0,5))"}) {
            Refusal.leaves("readImplicit of " + text, "0", () -> Refusal.richGrid(text),
                () -> Refusal.richGrid(""), grid -> grid.readImplicit(0));
        }
        GridEngine grid = new GridEngine();
        grid.readImplicit(0);
        Check.thrown("no change", STATE, () -> grid.undo());
    }

    // Promise 4: "The buffer is empty afterwards as for readTracks."
    private static void readImplicitEmptiesTheBuffer() {
        for (String text : new String[] {"", "5", "repeat(0,5)", "5 x", "0fr", "repeat(13,5)"}) {
            GridEngine grid = new GridEngine();
            Check.feed(grid, text);
            answerOrNot(() -> grid.readImplicit(1));
            Check.due("the buffer behind \"" + text + "\"", 1, () -> grid.feed('6'));
            Check.due("only the new letter is read", 1, () -> grid.readTracks(0));
        }
    }

    // Promise 4: "-100 minus the error position after a syntax error", "Throws
    // IllegalArgumentException [..] if the text is correct and has a factor 0", "Throws
    // IllegalStateException if the text has more than 12 tracks"; all but the buffer stays.
    private static void readImplicitLeavesTheRest() {
        String[][] rows = {{"5 x", "-102"}, {"x", "-100"}, {"5 ", "-102"}, {"0fr x", "-104"},
            {"5 0fr", "IllegalArgumentException"}, {"repeat(0,0fr)", "IllegalArgumentException"},
            {"repeat(13,0fr)", "IllegalArgumentException"},
            {"repeat(13,5)", "IllegalStateException"}};
        for (String[] row : rows) {
            for (int axis = 0; axis < 2; axis++) {
                int a = axis;
                Refusal.leaves("readImplicit of " + row[0], row[1],
                    () -> Refusal.richGrid(row[0]), () -> Refusal.richGrid(""),
                    grid -> grid.readImplicit(a));
            }
        }
    }

    // Promise 4: "Throws IllegalArgumentException if there is no such axis"; the buffer stays.
    private static void readImplicitNeedsAnAxis() {
        for (int axis : NO_AXES) {
            for (String text : new String[] {"", "1 2", "x", "0fr", "repeat(13,1)"}) {
                Refusal.thrown("readImplicit of " + text + " on axis " + axis, REFUSED,
                    () -> Refusal.richGrid(text), grid -> grid.readImplicit(axis));
            }
        }
    }

    // ---- promise 5

    // Promise 5: "track: the track, from 1", "Throws IndexOutOfBoundsException if the grid has no
    // such track". The rich grid has 3 columns and 2 rows.
    private static void definitionOfTracksFrom1ToTheLast() {
        GridEngine grid = Refusal.richGrid();
        Check.due("the first column", 10, () -> grid.definition(0, 1, 1));
        Check.due("the last column", 3, () -> grid.definition(0, 3, 2));
        Check.due("the last row", 7, () -> grid.definition(1, 2, 3));
        for (int track : new int[] {0, -1, 4, 13, Integer.MIN_VALUE, Integer.MAX_VALUE}) {
            Refusal.thrown("definition of column " + track, MISSING,
                g -> g.definition(0, track, 0));
        }
        Refusal.thrown("definition of row 3", MISSING, g -> g.definition(1, 3, 4));
        GridEngine empty = new GridEngine();
        Check.thrown("a grid without tracks", MISSING, () -> empty.definition(0, 1, 0));
        empty.addItem(1, 1, 1, 1);
        Check.due("a grid with one", 1, () -> empty.definition(0, 1, 0));
        Check.thrown("and no second one", MISSING, () -> empty.definition(0, 2, 0));
    }

    // Promise 5: "Throws IllegalArgumentException if there is no such axis or part"; "0 if it is
    // not fixed", "0 for the others".
    private static void definitionOfParts0To4() {
        for (int part : new int[] {-1, 5, Integer.MIN_VALUE, Integer.MAX_VALUE}) {
            Refusal.thrown("part " + part, REFUSED, grid -> grid.definition(0, 1, part));
        }
        for (int axis : NO_AXES) {
            Refusal.thrown("axis " + axis, REFUSED, grid -> grid.definition(axis, 1, 0));
        }
        readDefinition("minmax(5,max)?", 0, 5, 2, 0, 1);
        readDefinition("minmax(max,5)", 2, 0, 0, 5, 0);
        readDefinition("minmax(5,auto)", 0, 5, 3, 0, 0);
        readDefinition("minmax(5,min)", 0, 5, 1, 0, 0);
    }

    // Description: "If several exceptions apply, the one named first is thrown."
    private static void definitionNamesAxisAndPartAheadOfTheTrack() {
        Refusal.thrown("no axis, no track", REFUSED, grid -> grid.definition(2, 0, 0));
        Refusal.thrown("no part, no track", REFUSED, grid -> grid.definition(0, 99, 5));
    }
}
