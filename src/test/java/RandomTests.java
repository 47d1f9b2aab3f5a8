import java.util.Random;

/**
 * Runs of calls from fixed seeds, each on a GridEngine and on the PlainGrid that follows the
 * document word for word: both have to answer, or throw, the same.
 */
public final class RandomTests {
    private static final int TEXTS = 30000;
    private static final int RUNS = 2000;
    private static final int CALLS = 60;

    private interface Call {
        long answer();
    }

    private final Random random;
    private final StringBuilder story = new StringBuilder();
    private GridEngine grid = new GridEngine();
    private PlainGrid plain = new PlainGrid();
    private boolean isWrong = false;

    private RandomTests(long seed) {
        random = new Random(seed);
    }

    public static void main(String[] args) {
        int wrong = 0;
        for (int seed = 0; seed < TEXTS / 100; seed++) {
            wrong += new RandomTests(seed).readTexts() ? 0 : 1;
        }
        for (int seed = 0; seed < RUNS; seed++) {
            wrong += new RandomTests(1000000L + seed).makeRun() ? 0 : 1;
        }
        System.out.println("random runs: " + (TEXTS / 100 + RUNS) + ", wrong: " + wrong);
        if (wrong > 0) {
            System.exit(1);
        }
    }

    // ---- comparing

    private static String outcome(Call call) {
        try {
            return Long.toString(call.answer());
        } catch (RuntimeException thrown) {
            return thrown.getClass().getName();
        }
    }

    private void compare(String name, Call call, Call plainCall) {
        String got = outcome(call);
        String due = outcome(plainCall);
        story.append(name).append(" -> ").append(got).append('\n');
        if (!got.equals(due) && !isWrong) {
            isWrong = true;
            System.out.println(story + "due is " + due + "\n");
        }
    }

    private int upTo(int greatest) {
        return random.nextInt(greatest + 1);
    }

    private boolean oneIn(int number) {
        return random.nextInt(number) == 0;
    }

    // ---- texts

    private String number() {
        switch (upTo(5)) {
            case 0: return Integer.toString(upTo(999));
            case 1: return "0" + upTo(99);
            case 2: return "00" + upTo(9);
            default: return Integer.toString(upTo(60));
        }
    }

    private String factor() {
        return (oneIn(30) ? "0" : oneIn(9) ? "0" + (1 + upTo(8)) : "" + (1 + upTo(8))) + "fr";
    }

    private String simple() {
        String[] bounds = {"auto", "min", "max", number(), number()};
        String least = bounds[upTo(4)];
        String most = oneIn(3) ? factor() : bounds[upTo(4)];
        String tight = "minmax(" + (oneIn(2) ? "auto" : "max") + "," + upTo(40) + ")";
        String[] kinds = {number(), "auto", "min", "max", factor(), factor(),
            "fit(" + number() + ")", "minmax(" + least + "," + most + ")",
            "minmax(" + least + "," + most + ")", tight, tight};
        return kinds[upTo(kinds.length - 1)] + (oneIn(4) ? "?" : "");
    }

    private String list(int tracks, int depth) {
        StringBuilder list = new StringBuilder();
        for (int track = 0; track < tracks; track++) {
            list.append(track == 0 ? "" : " ");
            if (depth > 0 && oneIn(4)) {
                String copies = oneIn(9) ? number() : Integer.toString(upTo(3));
                list.append("repeat(").append(copies).append(",");
                list.append(list(1 + upTo(1), depth - 1)).append(")");
            } else {
                list.append(simple());
            }
        }
        return list.toString();
    }

    private String mangled(String text) {
        String signs = "0123456789 ?(),frepatminxuol\u0000\u00e9\uffff";
        StringBuilder changed = new StringBuilder(text);
        int at = upTo(text.length());
        char sign = signs.charAt(upTo(signs.length() - 1));
        switch (upTo(3)) {
            case 0: changed.insert(at, sign); break;
            case 1: changed.setLength(at); break;
            case 2: changed.delete(at, Math.min(at + 1 + upTo(2), text.length())); break;
            default: changed.insert(at, text.substring(upTo(at), at)); break;
        }
        return changed.toString();
    }

    private String text() {
        String text = list(upTo(oneIn(6) ? 12 : 4), 1 + upTo(5));
        return oneIn(3) ? mangled(text) : text;
    }

    private void feedText(String text) {
        story.append("text \"").append(text).append("\"\n");
        for (char letter : text.toCharArray()) {
            if (!outcome(() -> grid.feed(letter)).equals(outcome(() -> plain.feed(letter)))) {
                compare("feed", () -> 1, () -> 0);
            }
        }
    }

    private void readText(int axis, boolean isImplicit) {
        if (isImplicit) {
            compare("readImplicit(" + axis + ")", () -> grid.readImplicit(axis),
                () -> plain.readImplicit(axis));
        } else {
            compare("readTracks(" + axis + ")", () -> grid.readTracks(axis),
                () -> plain.readTracks(axis));
        }
    }

    private boolean readTexts() {
        for (int turn = 0; turn < 100 && !isWrong; turn++) {
            feedText(text());
            readText(oneIn(20) ? 2 : upTo(1), oneIn(3));
            for (int axis = 0; axis < 2; axis++) {
                compareDefinitions(axis);
            }
        }
        return !isWrong;
    }

    private void compareDefinitions(int axis) {
        compare("tracks", () -> grid.tracks(axis), () -> plain.tracks(axis));
        int count = grid.tracks(axis);
        for (int track = 0; track <= count + 1; track++) {
            for (int part = 0; part < 5; part++) {
                int t = track;
                int p = part;
                compare("definition(" + axis + "," + t + "," + p + ")",
                    () -> grid.definition(axis, t, p), () -> plain.definition(axis, t, p));
            }
        }
    }

    // ---- whole runs

    private boolean makeRun() {
        int kind = upTo(3);
        for (int turn = 0; turn < CALLS && !isWrong; turn++) {
            changeSomething(kind);
            if (oneIn(6)) {
                askEverything();
            }
        }
        askEverything();
        return !isWrong;
    }

    private int axis() {
        return oneIn(60) ? (oneIn(2) ? -1 : 2) : upTo(1);
    }

    private int item() {
        return oneIn(40) ? -1 : upTo(Math.max(0, plain.items() - (oneIn(10) ? 0 : 1)));
    }

    private int pixels(int kind) {
        return kind == 0 ? upTo(999) : kind == 1 ? upTo(12) : upTo(120);
    }

    private void changeSomething(int kind) {
        int turn = upTo(20);
        if (turn < 3) {
            readSomething();
        } else if (turn < 6) {
            setSomething(kind);
        } else if (turn < 11) {
            addSomething(kind);
        } else if (turn < 15) {
            placeSomething();
        } else if (turn < 17) {
            changeItem(kind);
        } else if (turn < 18) {
            moveItems();
        } else {
            changeStates();
        }
    }

    private void readSomething() {
        int axis = axis();
        String text = oneIn(5) ? text() : list(upTo(5), 1);
        feedText(text);
        readText(axis, oneIn(3));
    }

    private void setSomething(int kind) {
        int axis = axis();
        int setting = oneIn(40) ? upTo(4) - 1 : upTo(2);
        int value = setting == 0 ? (oneIn(4) ? -1 : pixels(kind) * (1 + upTo(9)))
            : setting == 1 ? upTo(oneIn(5) ? 99 : 9) : upTo(6);
        int used = oneIn(40) ? random.nextInt() : oneIn(40) ? 10000 : value;
        compare("set(" + axis + "," + setting + "," + used + ")",
            () -> grid.set(axis, setting, used), () -> plain.set(axis, setting, used));
        if (oneIn(5)) {
            int flow = oneIn(20) ? 2 : upTo(1);
            boolean isDense = oneIn(2);
            compare("setFlow(" + flow + "," + isDense + ")",
                () -> grid.setFlow(flow, isDense), () -> plain.setFlow(flow, isDense));
        }
    }

    private void addSomething(int kind) {
        int small = oneIn(4) ? 0 : pixels(kind);
        int large = oneIn(30) ? pixels(kind) : Math.min(999, small + pixels(kind));
        int low = oneIn(4) ? 0 : pixels(kind);
        int high = oneIn(30) ? pixels(kind) : Math.min(oneIn(30) ? 1100 : 999, low + pixels(kind));
        compare("addItem(" + small + "," + large + "," + low + "," + high + ")",
            () -> grid.addItem(small, large, low, high),
            () -> plain.addItem(small, large, low, high));
    }

    private void placeSomething() {
        int item = item();
        int axis = axis();
        int start = oneIn(2) ? -1 : oneIn(30) ? upTo(14) - 1 : 1 + upTo(oneIn(4) ? 11 : 4);
        int span = oneIn(30) ? upTo(6) : 1 + upTo(3);
        compare("place(" + item + "," + axis + "," + start + "," + span + ")",
            () -> grid.place(item, axis, start, span), () -> plain.place(item, axis, start, span));
    }

    private void changeItem(int kind) {
        int item = item();
        int axis = axis();
        if (oneIn(2)) {
            int alignment = oneIn(20) ? upTo(6) - 1 : upTo(3);
            compare("align(" + item + "," + axis + "," + alignment + ")",
                () -> grid.align(item, axis, alignment), () -> plain.align(item, axis, alignment));
        } else {
            boolean isLarge = oneIn(2);
            int value = oneIn(20) ? random.nextInt(1200) - 100 : pixels(kind);
            compare("contribute(" + item + "," + axis + "," + isLarge + "," + value + ")",
                () -> grid.contribute(item, axis, isLarge, value),
                () -> plain.contribute(item, axis, isLarge, value));
        }
    }

    private void moveItems() {
        int one = item();
        int other = item();
        if (oneIn(3)) {
            compare("removeItem(" + one + ")", () -> grid.removeItem(one),
                () -> plain.removeItem(one));
        } else {
            compare("exchange(" + one + "," + other + ")", () -> grid.exchange(one, other),
                () -> plain.exchange(one, other));
        }
    }

    private void changeStates() {
        int slot = oneIn(30) ? upTo(6) - 2 : upTo(2);
        switch (upTo(3)) {
            case 0:
                compare("save(" + slot + ")", () -> grid.save(slot), () -> plain.save(slot));
                break;
            case 1:
                compare("restore(" + slot + ")", () -> grid.restore(slot),
                    () -> plain.restore(slot));
                break;
            default:
                for (int turn = upTo(oneIn(9) ? 9 : 2); turn >= 0; turn--) {
                    compare("undo()", () -> grid.undo(), () -> plain.undo());
                }
        }
    }

    private void askEverything() {
        compare("items()", () -> grid.items(), () -> plain.items());
        for (int axis = -1; axis <= 2; axis++) {
            int a = axis;
            compare("tracks(" + a + ")", () -> grid.tracks(a), () -> plain.tracks(a));
            compare("free(" + a + ")", () -> grid.free(a), () -> plain.free(a));
            compare("unmet(" + a + ",0)", () -> grid.unmet(a, false), () -> plain.unmet(a, false));
            compare("unmet(" + a + ",1)", () -> grid.unmet(a, true), () -> plain.unmet(a, true));
            for (int stage = 0; stage <= 6; stage++) {
                int s = stage;
                compare("total(" + a + "," + s + ")", () -> grid.total(a, s),
                    () -> plain.total(a, s));
            }
            askTracks(a);
            askItems(a);
        }
        askCells();
    }

    private void askTracks(int axis) {
        int count = axis < 0 || axis > 1 ? 1 : plain.tracks(axis);
        for (int track = 0; track <= count + 1; track++) {
            int t = track;
            for (int stage = 0; stage <= 6; stage++) {
                int s = stage;
                compare("size(" + axis + "," + t + "," + s + ")",
                    () -> grid.size(axis, t, s), () -> plain.size(axis, t, s));
            }
            for (int part = -1; part <= 5; part++) {
                int p = part;
                compare("definition(" + axis + "," + t + "," + p + ")",
                    () -> grid.definition(axis, t, p), () -> plain.definition(axis, t, p));
            }
            compare("isCollapsed(" + axis + "," + t + ")",
                () -> grid.isCollapsed(axis, t) ? 1 : 0, () -> plain.isCollapsed(axis, t) ? 1 : 0);
            compare("position(" + axis + "," + t + ")",
                () -> grid.position(axis, t), () -> plain.position(axis, t));
        }
    }

    private void askItems(int axis) {
        for (int item = -1; item <= plain.items(); item++) {
            int i = item;
            compare("startOf(" + i + "," + axis + ")",
                () -> grid.startOf(i, axis), () -> plain.startOf(i, axis));
            for (int what = -1; what <= 4; what++) {
                int w = what;
                compare("box(" + i + "," + axis + "," + w + ")",
                    () -> grid.box(i, axis, w), () -> plain.box(i, axis, w));
            }
        }
    }

    private void askCells() {
        for (int what = -1; what <= 3; what++) {
            int w = what;
            compare("cells(" + w + ")", () -> grid.cells(w), () -> plain.cells(w));
        }
        for (int turn = 0; turn < 12; turn++) {
            int column = upTo(plain.tracks(0) + 1);
            int row = upTo(plain.tracks(1) + 1);
            compare("itemIn(" + column + "," + row + ")",
                () -> grid.itemIn(column, row), () -> plain.itemIn(column, row));
        }
        for (int turn = 0; turn < 8; turn++) {
            askPoint(upTo(plain.total(0, 5) + 4) - 2, upTo(plain.total(1, 5) + 4) - 2);
            if (plain.items() > 0) {
                int item = upTo(plain.items() - 1);
                int x = plain.box(item, 0, 0) + upTo(1) * plain.box(item, 0, 1);
                int y = plain.box(item, 1, 0) + upTo(1) * plain.box(item, 1, 1);
                askPoint(x - upTo(1), y - upTo(1));
            }
        }
        askPoint(Integer.MIN_VALUE, Integer.MAX_VALUE);
        askPoint(Integer.MAX_VALUE, 0);
    }

    private void askPoint(int x, int y) {
        compare("itemUnder(" + x + "," + y + ")",
            () -> grid.itemUnder(x, y), () -> plain.itemUnder(x, y));
    }
}
