import java.util.NoSuchElementException;

/**
 * The sentences of the document that name a boundary case of saving, restoring and taking back
 * (promises 27 to 29), and those about calls in general: each test quotes its sentence.
 */
public final class StateBoundaryTests {
    private static final Class<IllegalArgumentException> REFUSED = IllegalArgumentException.class;
    private static final Class<IllegalStateException> STATE = IllegalStateException.class;
    private static final Class<IndexOutOfBoundsException> MISSING =
        IndexOutOfBoundsException.class;
    private static final int[] NO_SLOTS = {-1, 3, Integer.MIN_VALUE, Integer.MAX_VALUE};

    private interface Change {
        long make(GridEngine grid);
    }

    public static void main(String[] args) {
        saveInSlots0To2();
        saveReplacesWhatTheSlotHeld();
        saveKeepsACopy();
        saveIsNoChange();
        restoreFromSlots0To2();
        restoreOfAnEmptySlot();
        restoreLeavesTheSlot();
        restoreOfAllParts();
        inputBufferStays();
        undoOfEachChange();
        undoOfNothing();
        undoOfEightChanges();
        undoOfMoreThanEightChanges();
        undoCountsWhatIsLeft();
        undoIsNoChange();
        undoAcrossTheEndOfItsRoom();
        undoTakesBackNoRefusedCall();
        changesWithNothingDifferent();
        restoreIsTakenBackToo();
        exceptionsInTheirOrder();
        questionsLeaveTheState();
        call512();
        Check.finish("StateBoundaryTests");
    }

    private static GridEngine gridOf(int items) {
        GridEngine grid = new GridEngine();
        for (int item = 0; item < items; item++) {
            grid.addItem(item, 20, item, 20);
        }
        return grid;
    }

    private static void dueWidth(String what, GridEngine grid, int want) {
        Check.due(what, want, () -> grid.size(0, 1, 1));
    }

    // ---- promises 27 and 28

    // Promise 27: "slot: the slot, 0 to 2", "Returns the number of items.", "Throws
    // IndexOutOfBoundsException if there is no such slot"
    private static void saveInSlots0To2() {
        for (int items = 0; items <= 12; items += 6) {
            int count = items;
            GridEngine grid = gridOf(items);
            for (int slot = 0; slot < 3; slot++) {
                int s = slot;
                Check.due("save", count, () -> grid.save(s));
            }
        }
        for (int slot : NO_SLOTS) {
            Refusal.thrown("save in slot " + slot, MISSING, g -> g.save(slot));
        }
    }

    // Promise 27: "Saves all tracks, settings and items in a slot, in place of what it held."
    private static void saveReplacesWhatTheSlotHeld() {
        for (int slot = 0; slot < 3; slot++) {
            int s = slot;
            GridEngine grid = gridOf(3);
            grid.save(s);
            grid.removeItem(0);
            grid.removeItem(0);
            Check.due("fewer items", 1, () -> grid.save(s));
            grid.removeItem(0);
            Check.due("the later state", 1, () -> grid.restore(s));
            dueWidth("its item", grid, 2);
            for (int other = 0; other < 3; other++) {
                int o = other;
                if (o != s) {
                    Check.thrown("slot " + o + " holds nothing", STATE, () -> grid.restore(o));
                }
            }
        }
    }

    // Promise 27: what a slot holds is not changed by later calls.
    private static void saveKeepsACopy() {
        GridEngine grid = Check.grid("7 8", "");
        grid.addItem(3, 5, 0, 0);
        grid.save(1);
        grid.contribute(0, 0, true, 9);
        grid.place(0, 0, 4, 4);
        grid.set(0, 1, 99);
        Check.feed(grid, "1 2 3 4 5");
        grid.readTracks(0);
        Check.due("restore", 1, () -> grid.restore(1));
        Check.due("tracks", 2, () -> grid.tracks(0));
        Check.due("large width", 5, () -> grid.contribute(0, 0, true, 5));
        Check.due("place", 1, () -> grid.place(0, 0, GridEngine.NONE, 1));
        Check.due("gap", 0, () -> grid.set(0, 1, 0));
    }

    // Promise 29 names the changes; "save" is none of them.
    private static void saveIsNoChange() {
        GridEngine grid = gridOf(1);
        grid.save(0);
        grid.save(0);
        Check.due("only the item is one", 0, () -> grid.undo());
        Check.thrown("none is left", STATE, () -> grid.undo());
        Check.due("the slot still holds it", 1, () -> grid.restore(0));
    }

    // Promise 28: "slot: the slot, 0 to 2", "Throws IndexOutOfBoundsException if there is no such
    // slot"
    private static void restoreFromSlots0To2() {
        GridEngine grid = new GridEngine();
        for (int slot = 0; slot < 3; slot++) {
            grid.save(slot);
            grid.addItem(slot, 20, 0, 0);
        }
        for (int slot = 2; slot >= 0; slot--) {
            int s = slot;
            Check.due("restore", s, () -> grid.restore(s));
            Check.due("items", s, () -> grid.items());
        }
        for (int slot : NO_SLOTS) {
            Refusal.thrown("restore of slot " + slot, MISSING, g -> g.restore(slot));
            Check.thrown("restore of slot " + slot, MISSING, () -> gridOf(1).restore(slot));
        }
    }

    // Promise 28: "Throws IllegalStateException if the slot holds nothing". Slot 1 of the rich grid
    // holds nothing.
    private static void restoreOfAnEmptySlot() {
        Refusal.thrown("restore of nothing", STATE, g -> g.restore(1));
        for (int slot = 0; slot < 3; slot++) {
            int s = slot;
            GridEngine grid = new GridEngine();
            Check.thrown("nothing yet", STATE, () -> grid.restore(s));
            grid.save(s);
            Check.due("an empty grid is something", 0, () -> grid.restore(s));
        }
    }

    // Promise 28: "Restores what a slot holds, which stays there."
    private static void restoreLeavesTheSlot() {
        GridEngine grid = gridOf(2);
        grid.save(2);
        for (int turn = 0; turn < 3; turn++) {
            grid.contribute(0, 0, false, 20);
            grid.removeItem(1);
            Check.due("restore", 2, () -> grid.restore(2));
            Check.due("it is as it was", 0, () -> grid.contribute(0, 0, false, 0));
        }
    }

    // Promise 27: "all tracks, settings and items", each of them at its greatest and its least.
    private static void restoreOfAllParts() {
        GridEngine grid = Check.grid("repeat(12,minmax(999,99fr)?)", "repeat(12,fit(999)?)");
        for (int axis = 0; axis < 2; axis++) {
            Check.feed(grid, "minmax(max,998)?");
            grid.readImplicit(axis);
            grid.set(axis, 0, 9999);
            grid.set(axis, 1, 99);
            grid.set(axis, 2, 6);
        }
        grid.setFlow(1, true);
        grid.addItem(999, 999, 999, 999);
        for (int axis = 0; axis < 2; axis++) {
            grid.place(0, axis, 12, 4);
            grid.align(0, axis, 3);
        }
        dueGreatest("at first", grid);
        grid.save(0);
        clear(grid);
        grid.save(1);
        grid.restore(0);
        dueGreatest("restored", grid);
        grid.restore(1);
        dueLeast("restored", grid);
        grid.undo();
        dueGreatest("taken back", grid);
    }

    private static void clear(GridEngine grid) {
        grid.removeItem(0);
        for (int axis = 0; axis < 2; axis++) {
            grid.readTracks(axis);
            Check.feed(grid, "auto");
            grid.readImplicit(axis);
            grid.set(axis, 0, GridEngine.NONE);
            grid.set(axis, 1, 0);
            grid.set(axis, 2, 0);
        }
        grid.setFlow(0, false);
    }

    private static void define(GridEngine grid, int axis, int track, int... want) {
        for (int part = 0; part < want.length; part++) {
            int p = part;
            Check.due("part " + p + " of track " + track, want[p],
                () -> grid.definition(axis, track, p));
        }
    }

    private static void dueGreatest(String what, GridEngine grid) {
        Check.due(what + ": items", 1, () -> grid.items());
        for (int axis = 0; axis < 2; axis++) {
            int a = axis;
            Check.due(what + ": tracks", 15, () -> grid.tracks(a));
            if (a == 0) {
                define(grid, 0, 1, 0, 999, 5, 99, 1);
                define(grid, 0, 12, 0, 999, 5, 99, 1);
            } else {
                define(grid, 1, 1, 1, 0, 4, 999, 1);
                define(grid, 1, 12, 1, 0, 4, 999, 1);
            }
            define(grid, a, 13, 2, 0, 0, 998, 1);
            define(grid, a, 15, 2, 0, 0, 998, 1);
            Check.due(what + ": size", 9999, () -> grid.set(a, 0, 9999));
            Check.due(what + ": gap", 99, () -> grid.set(a, 1, 99));
            Check.due(what + ": content alignment", 6, () -> grid.set(a, 2, 6));
            Check.due(what + ": place", 124, () -> grid.place(0, a, 12, 4));
            Check.due(what + ": alignment", 3, () -> grid.align(0, a, 3));
            Check.due(what + ": small", 999, () -> grid.contribute(0, a, false, 999));
            Check.due(what + ": large", 999, () -> grid.contribute(0, a, true, 999));
        }
        Check.due(what + ": flow", 3, () -> grid.setFlow(1, true));
    }

    private static void dueLeast(String what, GridEngine grid) {
        Check.due(what + ": items", 0, () -> grid.items());
        for (int axis = 0; axis < 2; axis++) {
            int a = axis;
            Check.due(what + ": tracks", 0, () -> grid.tracks(a));
            Check.due(what + ": free", 0, () -> grid.free(a));
        }
        Check.due(what + ": cells", 0, () -> grid.cells(0));
    }

    // Details: "The input buffer stays when something is saved or restored."
    private static void inputBufferStays() {
        for (int length : new int[] {0, 1, 119, 120}) {
            GridEngine grid = gridOf(1);
            grid.save(0);
            Check.feed(grid, "12 ".repeat(40).substring(0, length));
            grid.save(1);
            grid.restore(0);
            grid.restore(1);
            if (length == 120) {
                Check.thrown("a full buffer", STATE, () -> grid.feed('4'));
            } else {
                Check.due("a buffer of " + length, length + 1, () -> grid.feed('4'));
            }
        }
        GridEngine grid = new GridEngine();
        Check.feed(grid, "3");
        grid.save(0);
        Check.feed(grid, "4");
        grid.restore(0);
        grid.readTracks(0);
        Check.due("what was fed behind saving stays too", 34, () -> grid.definition(0, 1, 1));
        Check.due("the slot holds no buffer", 0, () -> grid.restore(0));
        Check.due("it is empty", 1, () -> grid.feed('5'));
    }

    // ---- promise 29

    // Promise 29: "Takes back the latest change that was not taken back: a successful call of
    // readTracks, readImplicit with at least one track, set, setFlow, addItem, place, align,
    // contribute, removeItem, exchange or restore."
    private static final Change[] CHANGES = {
        grid -> fed(grid, "9 9 9").readTracks(0),
        grid -> fed(grid, "").readTracks(1),
        grid -> fed(grid, "9?").readImplicit(0),
        grid -> fed(grid, "9? 8").readImplicit(1),
        grid -> grid.set(0, 0, GridEngine.NONE),
        grid -> grid.set(0, 1, 99),
        grid -> grid.set(1, 2, 0),
        grid -> grid.setFlow(0, false),
        grid -> grid.addItem(9, 99, 9, 99),
        grid -> grid.place(0, 0, GridEngine.NONE, 1),
        grid -> grid.place(1, 1, 12, 4),
        grid -> grid.align(1, 1, 0),
        grid -> grid.align(0, 0, 2),
        grid -> grid.contribute(1, 0, false, 0),
        grid -> grid.contribute(1, 1, true, 999),
        grid -> grid.removeItem(0),
        grid -> grid.removeItem(1),
        grid -> grid.exchange(0, 1),
        grid -> grid.restore(0),
    };

    private static GridEngine fed(GridEngine grid, String text) {
        Check.feed(grid, text);
        return grid;
    }

    private static void undoOfEachChange() {
        for (int change = 0; change < CHANGES.length; change++) {
            int c = change;
            GridEngine grid = Refusal.richGrid("");
            CHANGES[c].make(grid);
            Check.due("undo of change " + c, 7, () -> grid.undo());
            Refusal.samePresent("undo of change " + c, () -> changedAndBack(c),
                () -> Refusal.richGrid(""));
        }
    }

    private static GridEngine changedAndBack(int change) {
        GridEngine grid = Refusal.richGrid("");
        CHANGES[change].make(grid);
        grid.undo();
        return grid;
    }

    // Promise 29: "Throws IllegalStateException if there is none"
    private static void undoOfNothing() {
        Refusal.thrown("undo of a new grid", STATE, GridEngine::new, g -> g.undo());
        GridEngine grid = gridOf(1);
        Check.due("the only change", 0, () -> grid.undo());
        Check.thrown("no more", STATE, () -> grid.undo());
        Check.thrown("still no more", STATE, () -> grid.undo());
        Check.due("as a new grid", 0, () -> grid.items());
        Check.due("and a change again", 0, () -> grid.addItem(0, 0, 0, 0));
        Check.due("which is taken back", 0, () -> grid.undo());
    }

    // Promise 29: "At most 8 changes can be taken back".
    private static void undoOfEightChanges() {
        for (int count = 1; count <= 8; count++) {
            GridEngine grid = new GridEngine();
            for (int change = 1; change <= count; change++) {
                grid.set(0, 0, change);
            }
            for (int left = count - 1; left >= 0; left--) {
                int l = left;
                Check.due("undo of " + count, l, () -> grid.undo());
                Check.due("the state", l, () -> grid.free(0));
            }
            Check.thrown("undo of all " + count, STATE, () -> grid.undo());
            Check.due("none at first", GridEngine.NONE, () -> grid.set(0, 0, 1));
        }
    }

    // Promise 29: "older ones are forgotten."
    private static void undoOfMoreThanEightChanges() {
        for (int count = 9; count <= 20; count++) {
            GridEngine grid = new GridEngine();
            for (int change = 1; change <= count; change++) {
                grid.set(0, 0, change);
            }
            for (int left = 7; left >= 0; left--) {
                int l = left;
                Check.due("undo of " + count, l, () -> grid.undo());
            }
            int oldest = count - 8;
            Check.thrown("the ninth of " + count, STATE, () -> grid.undo());
            Check.due("the oldest state", oldest, () -> grid.set(0, 0, 1));
        }
    }

    // Promise 29: "Returns the number of changes that can still be taken back."
    private static void undoCountsWhatIsLeft() {
        GridEngine grid = new GridEngine();
        for (int change = 1; change <= 12; change++) {
            grid.set(0, 0, change);
        }
        for (int left = 7; left >= 4; left--) {
            int l = left;
            Check.due("undo", l, () -> grid.undo());
        }
        // Four are left; with three more there are seven.
        for (int change = 31; change <= 33; change++) {
            grid.set(0, 0, change);
        }
        int[] states = {32, 31, 8, 7, 6, 5, 4};
        for (int i = 0; i < states.length; i++) {
            int left = 6 - i;
            int state = states[i];
            Check.due("undo", left, () -> grid.undo());
            Check.due("the state", state, () -> grid.free(0));
        }
        Check.thrown("none is left", STATE, () -> grid.undo());
    }

    // Promise 29: "the latest change that was not taken back": undo is no change itself.
    private static void undoIsNoChange() {
        GridEngine grid = new GridEngine();
        grid.set(0, 0, 1);
        grid.set(0, 0, 2);
        grid.set(0, 0, 3);
        Check.due("the third", 2, () -> grid.undo());
        Check.due("the second, not the undo", 1, () -> grid.undo());
        Check.due("the state", 1, () -> grid.free(0));
        grid.set(0, 0, 4);
        Check.due("the new one", 1, () -> grid.undo());
        Check.due("the state", 1, () -> grid.free(0));
        Check.due("the first", 0, () -> grid.undo());
    }

    // Promise 29: "At most 8 changes": full, emptied by some, and filled again, several times.
    private static void undoAcrossTheEndOfItsRoom() {
        GridEngine grid = new GridEngine();
        int next = 1;
        for (int turn = 0; turn < 6; turn++) {
            for (int change = 0; change < 11; change++) {
                grid.set(0, 0, next);
                next++;
            }
            for (int back = 1; back <= 5; back++) {
                int left = 8 - back;
                int state = next - 1 - back;
                Check.due("undo", left, () -> grid.undo());
                Check.due("the state", state, () -> grid.free(0));
            }
        }
    }

    // Promise 29: "a successful call": neither a call that throws nor an error code is a change.
    private static void undoTakesBackNoRefusedCall() {
        GridEngine grid = gridOf(1);
        Check.thrown("set", REFUSED, () -> grid.set(0, 0, -2));
        Check.thrown("setFlow", REFUSED, () -> grid.setFlow(2, true));
        Check.thrown("addItem", REFUSED, () -> grid.addItem(1, 0, 0, 0));
        Check.thrown("place", REFUSED, () -> grid.place(0, 0, 13, 1));
        Check.thrown("align", REFUSED, () -> grid.align(0, 0, 4));
        Check.thrown("contribute", REFUSED, () -> grid.contribute(0, 0, true, 1000));
        Check.thrown("removeItem", MISSING, () -> grid.removeItem(1));
        Check.thrown("exchange", MISSING, () -> grid.exchange(0, 1));
        Check.thrown("restore", STATE, () -> grid.restore(0));
        for (int axis = 0; axis < 2; axis++) {
            int a = axis;
            Check.due("readTracks", -101, () -> fed(grid, "5x").readTracks(a));
            Check.thrown("readTracks", REFUSED, () -> fed(grid, "0fr").readTracks(a));
            Check.thrown("readTracks", STATE, () -> fed(grid, "repeat(13,1)").readTracks(a));
            Check.due("readImplicit", -101, () -> fed(grid, "5x").readImplicit(a));
            Check.thrown("readImplicit", REFUSED, () -> fed(grid, "0fr").readImplicit(a));
            Check.thrown("readImplicit", STATE, () -> fed(grid, "repeat(13,1)").readImplicit(a));
            Check.due("readImplicit", 0, () -> fed(grid, "repeat(0,1)").readImplicit(a));
        }
        Check.due("the item", 0, () -> grid.undo());
        Check.due("it is gone", 0, () -> grid.items());
    }

    // Details: "A call that succeeds is a change also if nothing is different."
    private static void changesWithNothingDifferent() {
        Change[] same = {
            grid -> grid.readTracks(0),
            grid -> fed(grid, "repeat(0,5)").readTracks(1),
            grid -> fed(grid, "auto").readImplicit(0),
            grid -> fed(grid, "auto 5").readImplicit(1),
            grid -> grid.set(0, 0, GridEngine.NONE),
            grid -> grid.set(1, 1, 0),
            grid -> grid.set(1, 2, 0),
            grid -> grid.setFlow(0, false),
            grid -> grid.place(0, 0, GridEngine.NONE, 1),
            grid -> grid.align(0, 1, 0),
            grid -> grid.contribute(0, 0, true, 20),
            grid -> grid.contribute(0, 1, false, 0),
            grid -> grid.exchange(0, 0),
            grid -> grid.restore(1),
        };
        for (int change = 0; change < same.length; change++) {
            GridEngine grid = gridOf(1);
            grid.save(1);
            same[change].make(grid);
            Check.due("undo of change " + change, 1, () -> grid.undo());
            Check.due("the item is still there", 1, () -> grid.items());
            Check.due("undo of the item", 0, () -> grid.undo());
        }
        GridEngine full = gridOf(1);
        for (int change = 0; change < 8; change++) {
            full.exchange(0, 0);
        }
        for (int left = 7; left >= 0; left--) {
            int l = left;
            Check.due("undo of an exchange", l, () -> full.undo());
        }
        Check.thrown("the item is forgotten", STATE, () -> full.undo());
        Check.due("it stays", 1, () -> full.items());
    }

    // Promise 29: "or restore", of which the slot "stays there".
    private static void restoreIsTakenBackToo() {
        GridEngine grid = gridOf(2);
        grid.save(0);
        grid.addItem(5, 5, 5, 5);
        grid.restore(0);
        Check.due("items", 2, () -> grid.items());
        Check.due("undo of restore", 3, () -> grid.undo());
        Check.due("items ahead of it", 3, () -> grid.items());
        Check.due("the slot stays", 2, () -> grid.restore(0));
        Check.due("undo again", 3, () -> grid.undo());
        Check.due("undo of the third item", 2, () -> grid.undo());
        Check.due("the slot stays behind that too", 2, () -> grid.restore(0));
    }

    // ---- calls in general, of all promises

    // Description: "If several exceptions apply, the one named first is thrown."
    private static void exceptionsInTheirOrder() {
        Refusal.thrown("definition: axis, track", REFUSED, g -> g.definition(2, 0, 0));
        Refusal.thrown("definition: part, track", REFUSED, g -> g.definition(0, 0, 5));
        Refusal.thrown("addItem: range, 12 items", REFUSED, Refusal::fullGrid,
            g -> g.addItem(-1, 0, 0, 0));
        Refusal.thrown("place: item, axis", MISSING, g -> g.place(2, 2, 1, 1));
        Refusal.thrown("place: item, start", MISSING, g -> g.place(2, 0, 0, 1));
        Refusal.thrown("place: item, span", MISSING, g -> g.place(2, 0, 1, 0));
        Refusal.thrown("align: item, axis", MISSING, g -> g.align(2, 2, 0));
        Refusal.thrown("align: item, alignment", MISSING, g -> g.align(2, 0, 4));
        Refusal.thrown("contribute: item, axis", MISSING, g -> g.contribute(2, 2, true, 5));
        Refusal.thrown("contribute: item, value", MISSING, g -> g.contribute(2, 0, true, -1));
        Refusal.thrown("startOf: item, axis", MISSING, g -> g.startOf(2, 2));
        Refusal.thrown("size: axis, track", REFUSED, g -> g.size(2, 0, 1));
        Refusal.thrown("size: stage, track", REFUSED, g -> g.size(0, 0, 0));
        Refusal.thrown("isCollapsed: axis, track", REFUSED, g -> g.isCollapsed(2, 0) ? 1 : 0);
        Refusal.thrown("position: axis, track", REFUSED, g -> g.position(2, 0));
        Refusal.thrown("box: item, axis", MISSING, g -> g.box(2, 2, 0));
        Refusal.thrown("box: item, what", MISSING, g -> g.box(2, 0, 4));
        Refusal.leaves("readTracks: factor 0, 13 tracks", "IllegalArgumentException",
            () -> Refusal.richGrid("repeat(13,0fr)"), () -> Refusal.richGrid(""),
            g -> g.readTracks(0));
        Refusal.leaves("readImplicit: factor 0, 13 tracks", "IllegalArgumentException",
            () -> Refusal.richGrid("repeat(13,0fr)"), () -> Refusal.richGrid(""),
            g -> g.readImplicit(0));
    }

    // Promises 5 and 14 to 26 "return" something, and change nothing.
    private static void questionsLeaveTheState() {
        Change[] questions = {
            grid -> grid.definition(0, 1, 0), grid -> grid.items(), grid -> grid.tracks(0),
            grid -> grid.startOf(0, 1), grid -> grid.itemIn(2, 1), grid -> grid.cells(0),
            grid -> grid.size(0, 2, 4), grid -> grid.isCollapsed(1, 2) ? 1 : 0,
            grid -> grid.position(0, 3), grid -> grid.total(1, 5), grid -> grid.free(0),
            grid -> grid.box(1, 0, 1), grid -> grid.unmet(0, true), grid -> grid.itemUnder(14, 0),
        };
        for (int question = 0; question < questions.length; question++) {
            int q = question;
            Refusal.sameState("question " + q, () -> asked(questions[q]), Refusal::richGrid);
        }
        GridEngine grid = Refusal.richGrid();
        Check.thrown("no item there", NoSuchElementException.class, () -> grid.itemIn(3, 2));
    }

    private static GridEngine asked(Change question) {
        GridEngine grid = Refusal.richGrid();
        question.make(grid);
        question.make(grid);
        return grid;
    }

    // "An object is used for at most 512 calls after it has been made": the last of them answers as
    // the first one does.
    private static void call512() {
        GridEngine grid = new GridEngine();
        for (int call = 1; call <= 500; call++) {
            grid.set(0, 0, call);
        }
        for (int left = 7; left >= 0; left--) {
            int l = left;
            Check.due("undo", l, () -> grid.undo());
        }
        Check.thrown("call 509", STATE, () -> grid.undo());
        Check.due("call 510", 492, () -> grid.free(0));
        Check.due("call 511", 0, () -> grid.addItem(1, 2, 3, 4));
        Check.due("call 512", 492, () -> grid.size(0, 1, 5));
    }
}
