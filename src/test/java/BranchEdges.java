/** Boundary cases of promises 3 to 8: opening and closing branches, and what they see and edit. */
final class BranchEdges {
    private BranchEdges() {
    }

    static void run() {
        Edge.of(3, "At most 4 branches are open, numbered from 0, the lowest free number being taken.",
            BranchEdges::lowestFreeNumbers);
        Edge.of(3, "Returns its number.", BranchEdges::theNumberIsThatOfLaterCalls);
        Edge.of(3, "Throws `IllegalStateException` if 4 are open", BranchEdges::aFifthBranch);
        Edge.of(4, "Returns how many edits it had.", BranchEdges::editsOfADroppedBranch);
        Edge.of(4, "Throws `IndexOutOfBoundsException` if there is no such branch",
            () -> Edge.noSuchBranch("drop", CindermapStore::drop));
        Edge.of(7, "A branch sees the map as it was as it was opened, but for its own edits,", BranchEdges::oldSight);
        Edge.of(5, "which are kept by spot, the last one of each alone;", BranchEdges::theLastEditOfASpot);
        Edge.of(8, "an edit to what it saw there as it was opened is none any more.", BranchEdges::editsThatAreNone);
        Edge.of(5, "Returns how many edits the branch has.", BranchEdges::editsAfterPainting);
        Edge.of(5, "Throws `IndexOutOfBoundsException` if there is no such branch",
            () -> Edge.noSuchBranch("paint", (store, branch) -> store.paint(branch, 0, 0, 0, 1)));
        Edge.of(5, "Throws `IllegalArgumentException` if a number is out of range", BranchEdges::wrongPaints);
        Edge.of(6, "Returns how many edits the branch has.", BranchEdges::editsAfterRoads);
        Edge.of(6, "Throws `IndexOutOfBoundsException` if there is no such branch",
            () -> Edge.noSuchBranch("road", (store, branch) -> store.road(branch, 0, 0, true, true)));
        Edge.of(6, "Throws `IllegalArgumentException` if a number is out of range,", BranchEdges::wrongRoads);
        Edge.of(6, "or there can be no such road", BranchEdges::roadsOverTheEdge);
        Edge.of(7, "Returns what a branch sees. Returns the value.", BranchEdges::leastAndGreatestValues);
        Edge.of(7, "Throws `IndexOutOfBoundsException` if there is no such branch",
            () -> Edge.noSuchBranch("seen", (store, branch) -> store.seen(branch, 0)));
        Edge.of(7, "Throws `IllegalArgumentException` if a number is out of range", BranchEdges::wrongSpots);
        Edge.of(8, "Returns how many edits a branch has. Returns how many.", BranchEdges::noneToAllEdits);
        Edge.of(8, "Throws `IndexOutOfBoundsException` if there is no such branch",
            () -> Edge.noSuchBranch("edits", CindermapStore::edits));
    }

    private static CindermapStore withBranches(int count) {
        CindermapStore store = new CindermapStore();
        for (int branch = 0; branch < count; branch++) {
            Check.is("open()", store.open(), branch);
        }
        return store;
    }

    private static void lowestFreeNumbers() {
        for (int first = 0; first < 4; first++) {
            CindermapStore store = withBranches(4);
            store.merge(first);
            Check.is("open() with " + first + " free", store.open(), first);
            for (int second = 0; second < 4; second++) {
                if (second != first) {
                    store.drop(first);
                    store.drop(second);
                    Check.is("open() with two free", store.open(), Math.min(first, second));
                    Check.is("open() with one free", store.open(), Math.max(first, second));
                }
            }
        }
        CindermapStore store = withBranches(3);
        for (int branch = 2; branch >= 0; branch--) {
            store.drop(branch);
        }
        Check.is("open() with all free", store.open(), 0);
    }

    private static void theNumberIsThatOfLaterCalls() {
        CindermapStore store = withBranches(4);
        for (int branch = 0; branch < 4; branch++) {
            store.paint(branch, 0, branch, 0, branch + 1);
        }
        for (int branch = 0; branch < 4; branch++) {
            for (int spot = 0; spot < 4; spot++) {
                Check.is("seen(" + branch + ", " + spot + ")", store.seen(branch, spot), spot == branch ? spot + 1 : 0);
            }
        }
    }

    private static void aFifthBranch() {
        CindermapStore store = withBranches(4);
        Check.fails("open() with 4", Check.STATE, store, store::open);
        store.drop(3);
        Check.is("open() with 3", store.open(), 3);
        Check.fails("open() with 4 again", Check.STATE, store, store::open);
        store.merge(0);
        Check.is("open() after a merge", store.open(), 0);
    }

    private static void editsOfADroppedBranch() {
        CindermapStore store = new CindermapStore();
        store.open();
        Check.is("drop(0) without edits", store.drop(0), 0);
        store.open();
        store.paint(0, 0, 0, 0, 1);
        Check.is("drop(0) with one", store.drop(0), 1);
        store.open();
        Check.is("edits(0) opened again", store.edits(0), 0);
        Check.is("seen(0, 0) opened again", store.seen(0, 0), 0);
        store.paint(0, 0, 0, 0, 1);
        store.paint(0, 0, 0, 0, 0);
        Check.is("drop(0) with one taken back", store.drop(0), 0);
        store.open();
        MapEdges.editAll(store, 0, 1);
        Check.is("drop(0) with all", store.drop(0), 304);
        Check.is("version() after all", store.version(), 0);
        Check.is("size(0, 1) after all", store.size(0, 1), 0);
    }

    private static void oldSight() {
        CindermapStore store = Check.drawn("12");
        store.open();
        store.paint(0, 0, 2, 0, 3);
        Check.bring(store, 0, 0, 0, 8);
        Check.bring(store, 0, 2, 0, 8);
        Check.is("seen(0, 0), changed since", store.seen(0, 0), 1);
        Check.is("seen(0, 1)", store.seen(0, 1), 2);
        Check.is("seen(0, 2), edited and changed since", store.seen(0, 2), 3);
        store.paint(0, 0, 2, 0, 0);
        Check.is("seen(0, 2), the edit taken back", store.seen(0, 2), 0);
        store.open();
        Check.is("seen(1, 0)", store.seen(1, 0), 8);
        Check.is("seen(1, 2)", store.seen(1, 2), 8);
        store.undo();
        store.undo();
        Check.is("seen(1, 0), undone since", store.seen(1, 0), 8);
        Check.is("seen(0, 0), undone since", store.seen(0, 0), 1);
    }

    private static void theLastEditOfASpot() {
        CindermapStore store = new CindermapStore();
        store.open();
        for (int area = 1; area <= 9; area++) {
            Check.is("paint to " + area, store.paint(0, 0, 0, 0, area), 1);
            Check.is("seen(0, 0)", store.seen(0, 0), area);
        }
        Check.is("merge(0)", store.merge(0), 1);
        Check.is("value(0, 1)", store.value(0, 1), 9);
        Check.is("changes(0)", store.changes(0), 1);
    }

    private static void editsThatAreNone() {
        CindermapStore store = Check.drawn("5");
        store.open();
        Check.is("paint to what it saw", store.paint(0, 0, 0, 0, 5), 0);
        Check.is("paint to something else", store.paint(0, 0, 0, 0, 6), 1);
        Check.is("paint back to what it saw", store.paint(0, 0, 0, 0, 5), 0);
        Check.bring(store, 0, 0, 0, 7);
        Check.is("paint to what the map has by now", store.paint(0, 0, 0, 0, 7), 1);
        Check.is("paint to what it saw, which the map has no more", store.paint(0, 0, 0, 0, 5), 0);
        Check.is("conflicts(0)", store.conflicts(0), 0);
        Check.is("merge(0)", store.merge(0), 0);
        Check.is("value(0, 2)", store.value(0, 2), 7);
        Check.is("version()", store.version(), 2);
    }

    private static void editsAfterPainting() {
        CindermapStore store = new CindermapStore();
        store.open();
        store.open();
        Check.is("paint to nothing", store.paint(0, 2, 7, 7, 0), 0);
        Check.is("the first edit", store.paint(0, 2, 7, 7, 1), 1);
        Check.is("the same again", store.paint(0, 2, 7, 7, 1), 1);
        Check.is("the place in another layer", store.paint(0, 1, 7, 7, 1), 2);
        Check.is("one in another branch", store.paint(1, 1, 7, 7, 1), 1);
        Check.is("one behind a road", store.road(0, 0, 0, true, true), 3);
        Check.is("one taken back", store.paint(0, 2, 7, 7, 0), 2);
    }

    private static void wrongPaints() {
        CindermapStore store = new CindermapStore();
        store.open();
        store.paint(0, 0, 0, 0, 9);
        Edge.range("paint, layer", Check.ARGUMENT, store, 0, 2, layer -> store.paint(0, layer, 0, 0, 0));
        Edge.range("paint, x", Check.ARGUMENT, store, 0, 7, x -> store.paint(0, 2, x, 0, 0));
        Edge.range("paint, y", Check.ARGUMENT, store, 0, 7, y -> store.paint(0, 2, 0, y, 0));
        Edge.range("paint, area", Check.ARGUMENT, store, 0, 9, area -> store.paint(0, 2, 7, 7, area));
    }

    private static void editsAfterRoads() {
        CindermapStore store = new CindermapStore();
        store.open();
        Check.is("a road that is not there, away", store.road(0, 0, 0, true, false), 0);
        Check.is("the first edit", store.road(0, 0, 0, true, true), 1);
        Check.is("the same again", store.road(0, 0, 0, true, true), 1);
        Check.is("the road to the right of the place", store.road(0, 0, 0, false, true), 2);
        Check.is("one taken back", store.road(0, 0, 0, true, false), 1);
        Check.is("merge(0)", store.merge(0), 1);
        store.open();
        Check.is("a road that is there", store.road(0, 0, 0, false, true), 0);
        Check.is("a road that is there, away", store.road(0, 0, 0, false, false), 1);
    }

    private static void wrongRoads() {
        CindermapStore store = new CindermapStore();
        store.open();
        for (int number : new int[] {-1, 8, Integer.MIN_VALUE, Integer.MAX_VALUE}) {
            for (boolean down : new boolean[] {false, true}) {
                Check.fails("road, x " + number, Check.ARGUMENT, store, () -> store.road(0, number, 3, down, true));
                Check.fails("road, y " + number, Check.ARGUMENT, store, () -> store.road(0, 3, number, down, true));
                Check.fails("no road, x " + number, Check.ARGUMENT, store, () -> store.road(0, number, 3, down, false));
            }
        }
    }

    private static void roadsOverTheEdge() {
        CindermapStore store = new CindermapStore();
        store.open();
        for (int number = 0; number < 8; number++) {
            int along = number;
            Check.fails("a road right of (7, " + along + ")", Check.ARGUMENT, store,
                () -> store.road(0, 7, along, false, true));
            Check.fails("no road right of (7, " + along + ")", Check.ARGUMENT, store,
                () -> store.road(0, 7, along, false, false));
            Check.fails("a road below (" + along + ", 7)", Check.ARGUMENT, store,
                () -> store.road(0, along, 7, true, true));
            Check.fails("no road below (" + along + ", 7)", Check.ARGUMENT, store,
                () -> store.road(0, along, 7, true, false));
        }
        Check.is("the last road right", store.road(0, 6, 7, false, true), 1);
        Check.is("the last road down", store.road(0, 7, 6, true, true), 2);
        Check.is("a road down at the right edge", store.road(0, 7, 0, true, true), 3);
        Check.is("a road right at the lower edge", store.road(0, 0, 7, false, true), 4);
    }

    private static void leastAndGreatestValues() {
        CindermapStore store = Check.drawn("9");
        store.open();
        Check.is("seen(0, 0)", store.seen(0, 0), 9);
        store.paint(0, 0, 0, 0, 0);
        Check.is("seen(0, 0), edited to none", store.seen(0, 0), 0);
        store.paint(0, 2, 7, 7, 9);
        Check.is("seen(0, 191)", store.seen(0, 191), 9);
        Check.is("seen(0, 192)", store.seen(0, 192), 0);
        store.road(0, 7, 6, true, true);
        Check.is("seen(0, 303)", store.seen(0, 303), 1);
    }

    private static void wrongSpots() {
        CindermapStore store = new CindermapStore();
        store.open();
        Edge.range("seen", Check.ARGUMENT, store, 0, 303, spot -> store.seen(0, spot));
    }

    private static void noneToAllEdits() {
        CindermapStore store = new CindermapStore();
        store.open();
        store.open();
        Check.is("edits(0) without any", store.edits(0), 0);
        store.road(0, 7, 6, true, true);
        Check.is("edits(0) with one", store.edits(0), 1);
        MapEdges.editAll(store, 0, 9);
        Check.is("edits(0) with all", store.edits(0), 304);
        Check.is("edits(1)", store.edits(1), 0);
        store.paint(0, 0, 0, 0, 0);
        Check.is("edits(0) with one less", store.edits(0), 303);
    }
}
