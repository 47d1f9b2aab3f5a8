/** Promises 1 to 7: a new object, the input buffer, texts of tracks, definitions, settings. */
public final class TextTests {
    private static final Class<IllegalArgumentException> REFUSED = IllegalArgumentException.class;
    private static final Class<IllegalStateException> STATE = IllegalStateException.class;
    private static final Class<IndexOutOfBoundsException> MISSING =
        IndexOutOfBoundsException.class;

    public static void main(String[] args) {
        newObject();
        feed();
        readCorrectTexts();
        readWrongTexts();
        readRefusedTexts();
        readTracksAndTheBuffer();
        readImplicit();
        definitionOfKinds();
        definitionRefused();
        set();
        setFlow();
        Check.finish("TextTests");
    }

    private static void newObject() {
        GridEngine grid = new GridEngine();
        Check.due("NONE", -1, () -> GridEngine.NONE);
        Check.due("items", 0, () -> grid.items());
        Check.due("cells", 0, () -> grid.cells(0));
        for (int axis = 0; axis < 2; axis++) {
            int a = axis;
            Check.due("tracks", 0, () -> grid.tracks(a));
            Check.due("total", 0, () -> grid.total(a, 5));
            Check.due("free", 0, () -> grid.free(a));
            Check.due("unmet", 0, () -> grid.unmet(a, true));
            Check.due("readTracks", 0, () -> grid.readTracks(a));
        }
        GridEngine other = new GridEngine();
        Check.thrown("undo", STATE, () -> other.undo());
        for (int slot = 0; slot < 3; slot++) {
            int s = slot;
            Check.thrown("restore", STATE, () -> other.restore(s));
        }
        other.addItem(1, 2, 3, 4);
        definition("implicit at first", other, 1, 1, 0, 3, 0, 0);
    }

    private static void definition(String what, GridEngine grid, int track, int... parts) {
        for (int part = 0; part < parts.length; part++) {
            int p = part;
            Check.due(what + ": part " + p, parts[p], () -> grid.definition(0, track, p));
        }
    }

    private static void feed() {
        GridEngine grid = new GridEngine();
        for (int count = 1; count <= 120; count++) {
            int c = count;
            Check.due("feed", c, () -> grid.feed((char) (c == 120 ? 65535 : 49)));
        }
        Check.thrown("feed beyond 120", STATE, () -> grid.feed('1'));
        Check.due("the full buffer is read", -103, () -> grid.readTracks(0));
        Check.due("feed begins anew", 1, () -> grid.feed('\0'));
        Check.due("a sign of no text", -100, () -> grid.readTracks(0));
        StringBuilder text = new StringBuilder("repeat(0,10");
        while (text.length() < 119) {
            text.append(" 10");
        }
        Check.feed(grid, text.append(')').toString());
        Check.due("120 characters", 0, () -> grid.readTracks(0));
    }

    private static long read(String text) {
        GridEngine grid = new GridEngine();
        Check.feed(grid, text);
        return grid.readTracks(0);
    }

    private static void readAs(String text, long want) {
        Check.due("reading \"" + text + "\"", want, () -> read(text));
    }

    private static void readCorrectTexts() {
        readAs("", 0);
        readAs("0", 1);
        readAs("007", 1);
        readAs("40 1fr", 2);
        readAs("auto min max 3fr fit(9) minmax(1,2)", 6);
        readAs("auto? min? max? 3fr? fit(9)? minmax(1,2)? 5?", 7);
        readAs("minmax(auto,auto) minmax(min,min) minmax(max,max) minmax(max,2fr)", 4);
        readAs("repeat(2,10) 5", 3);
        readAs("repeat(2,10 20?)", 4);
        readAs("repeat(003,auto repeat(2,1fr))", 9);
        readAs("repeat(12,auto)", 12);
        readAs("repeat(0,auto)", 0);
        readAs("repeat(0,repeat(999,repeat(999,1)))", 0);
        readAs("repeat(1,repeat(1,repeat(1,repeat(1,5))))", 1);
        readAs("repeat(1,5) repeat(1,5) repeat(1,5) repeat(1,5) repeat(1,5)", 5);
        readAs("repeat(0,repeat(99,1)) repeat(12,1)", 12);
        GridEngine grid = Check.grid("5 repeat(2,6 repeat(0,repeat(99,1)) 7?) 8", "");
        Check.sizes("copies in order", grid, 0, 1, 5, 6, 0, 6, 0, 8);
    }

    private static void readWrongTexts() {
        readAs("10 x", -103);
        readAs("10 ", -103);
        readAs(" 10", -100);
        readAs("10  20", -103);
        readAs("1000", -103);
        readAs("0000", -103);
        readAs("m", -101);
        readAs("mx", -101);
        readAs("mix", -102);
        readAs("minm", -104);
        readAs("minmix", -104);
        readAs("minmax", -106);
        readAs("minmax(", -107);
        readAs("minmax(fit(1),2)", -107);
        readAs("minmax(1fr,2)", -108);
        readAs("minmax(1,fit(3))", -109);
        readAs("minmax(1,2", -110);
        readAs("minmax(1,2f", -111);
        readAs("minmax(1?,2)", -108);
        readAs("minmax(minmax(1,2),2)", -110);
        readAs("m 5", -101);
        readAs("mi 5", -102);
        readAs("minmax(m,5)", -108);
        readAs("minmax(mi,5)", -109);
        readAs("minmax(ma,5)", -109);
        readAs("minmax(1,m)", -110);
        readAs("minmax(1,au)", -111);
        readAs("minmax(x,1)", -107);
        readAs("minmax(1,x)", -109);
        readAs("minmax(1,)", -109);
        readAs("minmax(,1)", -107);
        readAs("minmax(1111,1)", -110);
        readAs("autoo", -104);
        readAs("au", -102);
        readAs("fit(", -104);
        readAs("fit()", -104);
        readAs("fit(1234)", -107);
        readAs("fr", -101);
        readAs("10f", -103);
        readAs("10fit", -103);
        readAs("10??", -103);
        readAs("10 ?", -103);
        readAs("Auto", -100);
        readAs("10)", -102);
    }

    private static void readRefusedTexts() {
        readAs("repeat(2,10)?", -112);
        readAs("repeat(2,)", -109);
        readAs("repeat(,10)", -107);
        readAs("repeat(2 10)", -108);
        readAs("repeat(2,10", -111);
        readAs("repeat(2,10 )", -112);
        readAs("repeat(2,10)5", -112);
        readAs("repeat 2", -106);
        String four = "repeat(1,repeat(1,repeat(1,repeat(1,";
        readAs(four + "repeat(1,5)))))", -142);
        readAs(four + "repeat", -142);
        readAs(four + "rex", -138);
        readAs("re5", -102);
        readAs("repeat5", -106);
        readAs("repeat(5", -108);
        readAs("repeat(x,5)", -107);
        readAs("0fr x", -104);
        for (String text : new String[] {"0fr", "000fr", "minmax(5,0fr)", "repeat(0,0fr)",
                "repeat(13,0fr)", "repeat(13,auto) 0fr?"}) {
            Check.thrown("reading " + text, REFUSED, () -> read(text));
        }
        for (String text : new String[] {"repeat(13,auto)", "repeat(12,auto) 5",
                "repeat(999,repeat(999,repeat(999,repeat(999,1))))", "repeat(7,1 2)"}) {
            Check.thrown("reading " + text, STATE, () -> read(text));
        }
    }

    private static void readTracksAndTheBuffer() {
        GridEngine grid = Check.grid("1 2 3", "4");
        Check.feed(grid, "10 20");
        Check.thrown("no axis -1", REFUSED, () -> grid.readTracks(-1));
        Check.thrown("no axis 2", REFUSED, () -> grid.readTracks(2));
        Check.due("the buffer has stayed", 2, () -> grid.readTracks(0));
        Check.sizes("in place of the earlier ones", grid, 0, 1, 10, 20);
        Check.sizes("the other axis", grid, 1, 1, 4);
        for (String text : new String[] {"0fr", "repeat(13,1)", "x"}) {
            Check.feed(grid, text);
            try {
                grid.readTracks(0);
            } catch (RuntimeException expected) {
                Check.due(text + " throws", false, text.equals("x"));
            }
            Check.sizes("unchanged by " + text, grid, 0, 1, 10, 20);
            Check.due("the buffer is empty after " + text, 1, () -> grid.feed('5'));
            grid.readTracks(1);
        }
        Check.due("an empty text", 0, () -> grid.readTracks(0));
        Check.due("no tracks any more", 0, () -> grid.tracks(0));
    }

    private static void readImplicit() {
        GridEngine grid = new GridEngine();
        grid.addItem(1, 2, 3, 4);
        Check.feed(grid, "30 40");
        Check.thrown("no axis", REFUSED, () -> grid.readImplicit(2));
        Check.due("readImplicit", 2, () -> grid.readImplicit(0));
        definition("the first track", grid, 1, 0, 30, 0, 30, 0);
        Check.due("the other axis", 3, () -> grid.definition(1, 1, 2));
        Check.feed(grid, "repeat(0,7) fit(9)? 8");
        Check.due("a first one behind repeating", 2, () -> grid.readImplicit(0));
        definition("the first one that there is", grid, 1, 1, 0, 4, 9, 1);
        Check.due("an empty text", 0, () -> grid.readImplicit(0));
        Check.feed(grid, "repeat(0,7)");
        Check.due("no track", 0, () -> grid.readImplicit(0));
        Check.feed(grid, "7 x");
        Check.due("a wrong text", -102, () -> grid.readImplicit(0));
        Check.feed(grid, "repeat(13,0fr)");
        Check.thrown("factor 0", REFUSED, () -> grid.readImplicit(0));
        Check.feed(grid, "repeat(13,7)");
        Check.thrown("13 tracks", STATE, () -> grid.readImplicit(0));
        definition("the definition stays", grid, 1, 1, 0, 4, 9, 1);
        Check.due("the buffer is empty", 1, () -> grid.feed('5'));
        Check.due("only three changes", 2, () -> grid.undo());
        definition("taken back", grid, 1, 0, 30, 0, 30, 0);
        Check.due("the buffer stays", 1, () -> grid.readImplicit(0));
        definition("from the buffer", grid, 1, 0, 5, 0, 5, 0);
    }

    private static void definitionOfKinds() {
        GridEngine grid = Check.grid("7 auto min max? 3fr fit(12)", "");
        definition("number", grid, 1, 0, 7, 0, 7, 0);
        definition("auto", grid, 2, 1, 0, 3, 0, 0);
        definition("min", grid, 3, 1, 0, 1, 0, 0);
        definition("max", grid, 4, 2, 0, 2, 0, 1);
        definition("fr", grid, 5, 1, 0, 5, 3, 0);
        definition("fit", grid, 6, 1, 0, 4, 12, 0);
        GridEngine other = Check.grid("minmax(5,4) minmax(auto,max)? minmax(min,auto) "
            + "minmax(max,min) minmax(012,99fr) minmax(max,999)", "");
        definition("numbers", other, 1, 0, 5, 0, 4, 0);
        definition("auto, max", other, 2, 1, 0, 2, 0, 1);
        definition("min, auto", other, 3, 1, 0, 3, 0, 0);
        definition("max, min", other, 4, 2, 0, 1, 0, 0);
        definition("number, fr", other, 5, 0, 12, 5, 99, 0);
        definition("max, number", other, 6, 2, 0, 0, 999, 0);
    }

    private static void definitionRefused() {
        GridEngine grid = Check.grid("7", "");
        Check.thrown("no axis, no track", REFUSED, () -> grid.definition(2, 9, 0));
        Check.thrown("no part, no track", REFUSED, () -> grid.definition(0, 9, 5));
        Check.thrown("no part -1", REFUSED, () -> grid.definition(0, 1, -1));
        Check.thrown("no track 0", MISSING, () -> grid.definition(0, 0, 0));
        Check.thrown("no track 2", MISSING, () -> grid.definition(0, 2, 0));
        Check.thrown("no row", MISSING, () -> grid.definition(1, 1, 0));
        grid.addItem(1, 1, 1, 1);
        grid.place(0, 0, 3, 1);
        definition("an implicit track", grid, 3, 1, 0, 3, 0, 0);
        Check.thrown("behind the last", MISSING, () -> grid.definition(0, 4, 0));
    }

    private static void set() {
        GridEngine grid = new GridEngine();
        Check.due("size", -1, () -> grid.set(0, 0, 9999));
        Check.due("size again", 9999, () -> grid.set(0, 0, 0));
        Check.due("size to none", 0, () -> grid.set(0, 0, GridEngine.NONE));
        Check.due("the other axis", -1, () -> grid.set(1, 0, 7));
        Check.due("gap", 0, () -> grid.set(0, 1, 99));
        Check.due("gap again", 99, () -> grid.set(0, 1, 0));
        Check.due("content alignment", 0, () -> grid.set(1, 2, 6));
        Check.due("content alignment again", 6, () -> grid.set(1, 2, 0));
        int[][] wrong = {{-1, 0, 5}, {2, 0, 5}, {0, -1, 5}, {0, 3, 5}, {0, 0, 10000}, {0, 0, -2},
            {0, 1, 100}, {0, 1, -1}, {0, 2, 7}, {0, 2, -1}};
        for (int[] row : wrong) {
            Check.thrown("set", REFUSED, () -> grid.set(row[0], row[1], row[2]));
        }
        Check.due("unchanged", -1, () -> grid.set(0, 0, 1));
    }

    private static void setFlow() {
        GridEngine grid = new GridEngine();
        Check.due("at first", 0, () -> grid.setFlow(0, true));
        Check.due("dense by rows", 1, () -> grid.setFlow(1, false));
        Check.due("sparse by columns", 2, () -> grid.setFlow(1, true));
        Check.thrown("flow 2", REFUSED, () -> grid.setFlow(2, false));
        Check.thrown("flow -1", REFUSED, () -> grid.setFlow(-1, false));
        Check.due("dense by columns", 3, () -> grid.setFlow(0, false));
    }
}
