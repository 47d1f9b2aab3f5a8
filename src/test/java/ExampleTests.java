/** The document's five examples. */
public final class ExampleTests {
    public static void main(String[] args) {
        tracksFromText();
        flowByColumns();
        sharedTracks();
        collapsedTracks();
        wrongText();
        Check.finish("ExampleTests");
    }

    private static void tracksFromText() {
        GridEngine grid = new GridEngine();
        Check.feed(grid, "40 1fr");
        Check.due("readTracks", 2, () -> grid.readTracks(0));
        Check.due("set", -1, () -> grid.set(0, 0, 100));
        Check.due("first item", 0, () -> grid.addItem(10, 20, 5, 9));
        Check.due("second item", 1, () -> grid.addItem(10, 20, 5, 9));
        Check.due("tracks", 1, () -> grid.tracks(1));
        Check.due("column", 60, () -> grid.size(0, 2, 5));
        Check.due("box", 40, () -> grid.box(1, 0, 0));
        Check.due("row", 9, () -> grid.size(1, 1, 5));
    }

    private static void flowByColumns() {
        GridEngine grid = new GridEngine();
        Check.due("first item", 0, () -> grid.addItem(10, 20, 5, 9));
        Check.due("second item", 1, () -> grid.addItem(30, 50, 5, 9));
        Check.due("place", 1, () -> grid.place(1, 0, 1, 2));
        Check.due("setFlow", 0, () -> grid.setFlow(0, true));
        Check.due("tracks", 2, () -> grid.tracks(0));
        Check.due("row of 0", 1, () -> grid.startOf(0, 1));
        Check.due("row of 1", 2, () -> grid.startOf(1, 1));
        Check.sizes("bases", grid, 0, 1, 20, 10);
        Check.sizes("limits", grid, 0, 2, 30, 20);
    }

    private static void sharedTracks() {
        GridEngine grid = new GridEngine();
        Check.feed(grid, "1fr 2fr");
        Check.due("readTracks", 2, () -> grid.readTracks(0));
        Check.due("set", -1, () -> grid.set(0, 0, 100));
        Check.sizes("shares", grid, 0, 4, 33, 67);
        Check.due("position", 33, () -> grid.position(0, 2));
        Check.due("free", 0, () -> grid.free(0));
    }

    private static void collapsedTracks() {
        GridEngine grid = new GridEngine();
        Check.feed(grid, "10? 20");
        Check.due("readTracks", 2, () -> grid.readTracks(0));
        Check.due("addItem", 0, () -> grid.addItem(5, 5, 5, 5));
        Check.due("place", 1, () -> grid.place(0, 0, 2, 1));
        Check.due("isCollapsed", true, grid.isCollapsed(0, 1));
        Check.due("position", 0, () -> grid.position(0, 2));
        Check.due("total", 20, () -> grid.total(0, 5));
    }

    private static void wrongText() {
        GridEngine grid = new GridEngine();
        Check.feed(grid, "10 x");
        Check.due("readTracks", -103, () -> grid.readTracks(0));
        Check.thrown("undo", IllegalStateException.class, () -> grid.undo());
        Check.thrown("itemIn", IndexOutOfBoundsException.class, () -> grid.itemIn(1, 1));
    }
}
