/** Boundary cases of promises 9 to 11: what is a conflict, and how it is settled. */
final class ConflictEdges {
    private ConflictEdges() {
    }

    static void run() {
        Edge.of(9, "A spot is a conflict of a branch if the branch has an edit there, and the map has by now neither what"
            + " it had as the branch was opened nor what the edit tells,", ConflictEdges::threeValues);
        Edge.of(11, "unless it was told last, of this spot, for this value of the map that the own edit counts,",
            ConflictEdges::toldForOneValue);
        Edge.of(11, "which is forgotten as the spot has no edit any more.", ConflictEdges::forgottenWithTheEdit);
        Edge.of(9, "Returns how many conflicts a branch has. Returns how many.", ConflictEdges::noneToAllConflicts);
        Edge.of(9, "Throws `IndexOutOfBoundsException` if there is no such branch",
            () -> Edge.noSuchBranch("conflicts", CindermapStore::conflicts));
        Edge.of(10, "Returns a conflict, by the numbers of spots. Returns the number of the spot.",
            ConflictEdges::firstAndLastConflicts);
        Edge.of(10, "Throws `IndexOutOfBoundsException` if there is no such branch",
            () -> Edge.noSuchBranch("conflict", (store, branch) -> store.conflict(branch, 0)));
        Edge.of(10, "Throws `NoSuchElementException` if there is none", ConflictEdges::noSuchConflict);
        Edge.of(11, "Returns how many conflicts are left.", ConflictEdges::conflictsLeft);
        Edge.of(11, "Throws `IndexOutOfBoundsException` if there is no such branch",
            () -> Edge.noSuchBranch("settle", (store, branch) -> store.settle(branch, 0, true)));
        Edge.of(11, "Throws `IllegalArgumentException` if a number is out of range", ConflictEdges::wrongSpots);
        Edge.of(11, "Throws `UnsupportedOperationException` if it is no conflict", ConflictEdges::noConflict);
    }

    private static void conflictsAre(CindermapStore store, String told, int due) {
        Check.is("conflicts(0) with " + told, store.conflicts(0), due);
    }

    /** All of what a place can have as the branch is opened, by the edit, and by now. */
    private static void threeValues() {
        for (int base : new int[] {0, 1, 9}) {
            for (int edit : new int[] {0, 1, 9}) {
                for (int now : new int[] {0, 1, 9}) {
                    CindermapStore store = new CindermapStore();
                    Check.bring(store, 2, 7, 7, base);
                    store.open();
                    store.paint(0, 2, 7, 7, edit);
                    Check.bring(store, 2, 7, 7, now);
                    int due = edit != base && now != base && now != edit ? 1 : 0;
                    conflictsAre(store, base + " opened, " + edit + " edited, " + now + " by now", due);
                }
            }
        }
        CindermapStore store = Check.inConflict();
        store.undo();
        conflictsAre(store, "the map as it was as it was opened again", 0);
        CindermapStore roads = new CindermapStore();
        roads.open();
        roads.open();
        roads.road(0, 7, 6, true, true);
        roads.road(1, 7, 6, true, true);
        roads.merge(1);
        conflictsAre(roads, "a road, which has no third value", 0);
    }

    private static void toldForOneValue() {
        CindermapStore store = Check.inConflict();
        Check.is("settle(0, 0, true) for 5", store.settle(0, 0, true), 0);
        Check.bring(store, 0, 0, 0, 6);
        conflictsAre(store, "6 by now, told for 5", 1);
        Check.bring(store, 0, 0, 0, 5);
        conflictsAre(store, "5 again, told for 5", 0);
        store.paint(0, 0, 0, 0, 8);
        conflictsAre(store, "5, told for 5, the edit changed", 0);
        Check.bring(store, 0, 0, 0, 6);
        Check.is("settle(0, 0, true) for 6", store.settle(0, 0, true), 0);
        Check.bring(store, 0, 0, 0, 5);
        conflictsAre(store, "5 again, told last for 6", 1);
        store.undo();
        conflictsAre(store, "6 again, told last for 6", 0);
        store.paint(0, 0, 1, 0, 7);
        Check.bring(store, 0, 1, 0, 6);
        conflictsAre(store, "6 at another spot, told of the first alone", 1);
        Check.is("conflict(0, 0)", store.conflict(0, 0), 1);
        CindermapStore empty = Check.drawn("3");
        empty.open();
        empty.paint(0, 0, 0, 0, 7);
        Check.bring(empty, 0, 0, 0, 0);
        conflictsAre(empty, "none by now", 1);
        Check.is("settle(0, 0, true) for none", empty.settle(0, 0, true), 0);
        Check.is("merge(0)", empty.merge(0), 1);
    }

    private static void forgottenWithTheEdit() {
        CindermapStore store = Check.inConflict();
        store.settle(0, 0, true);
        store.paint(0, 0, 0, 0, 0);
        store.paint(0, 0, 0, 0, 7);
        conflictsAre(store, "the edit taken back by paint, and made again", 1);
        store.settle(0, 0, true);
        Check.bring(store, 0, 0, 0, 6);
        store.settle(0, 0, false);
        store.paint(0, 0, 0, 0, 7);
        store.undo();
        conflictsAre(store, "the edit taken away by settle, and made again", 1);
        store.settle(0, 0, true);
        store.device();
        store.note(0, 0, 0, 0, 0, 0);
        store.note(0, 1, 0, 0, 0, 7);
        store.home(0, 0, 0, 0);
        conflictsAre(store, "the edit taken back by a note, and made again by another", 1);
        store.settle(0, 0, true);
        store.note(0, 2, 0, 0, 0, 9);
        store.home(0, 0, 0, 0);
        conflictsAre(store, "the edit changed by a note", 0);
        store.drop(0);
        store.undo();
        store.open();
        store.paint(0, 0, 0, 0, 7);
        Check.bring(store, 0, 0, 0, 5);
        conflictsAre(store, "the branch closed and opened again", 1);
    }

    private static void noneToAllConflicts() {
        CindermapStore store = new CindermapStore();
        store.open();
        conflictsAre(store, "no edits", 0);
        Check.bring(store, 0, 0, 0, 3);
        conflictsAre(store, "no edits and a change", 0);
        CindermapStore full = new CindermapStore();
        full.open();
        full.open();
        for (int branch = 0; branch < 2; branch++) {
            for (int spot = 0; spot < 192; spot++) {
                full.paint(branch, spot / 64, spot % 8, spot % 64 / 8, 1 + branch);
            }
        }
        conflictsAre(full, "edits of every place, not merged yet", 0);
        full.merge(1);
        conflictsAre(full, "a conflict in every place", 192);
        Check.is("conflict(0, 191)", full.conflict(0, 191), 191);
        full.open();
        Check.is("conflicts(1)", full.conflicts(1), 0);
    }

    /** Conflicts at the spots 0, 63, 64 and 191. */
    private static CindermapStore fourConflicts() {
        CindermapStore store = new CindermapStore();
        store.open();
        store.open();
        for (int branch = 0; branch < 2; branch++) {
            for (int spot : new int[] {191, 0, 64, 63}) {
                store.paint(branch, spot / 64, spot % 8, spot % 64 / 8, 1 + branch);
            }
        }
        store.paint(0, 0, 4, 4, 4);
        store.merge(1);
        return store;
    }

    private static void firstAndLastConflicts() {
        CindermapStore store = fourConflicts();
        conflictsAre(store, "four", 4);
        int[] spots = {0, 63, 64, 191};
        for (int index = 0; index < 4; index++) {
            Check.is("conflict(0, " + index + ")", store.conflict(0, index), spots[index]);
        }
        store.settle(0, 0, true);
        Check.is("conflict(0, 0) with the first settled", store.conflict(0, 0), 63);
        Check.is("conflict(0, 2) with the first settled", store.conflict(0, 2), 191);
    }

    private static void noSuchConflict() {
        CindermapStore store = fourConflicts();
        Edge.range("conflict", Check.NO_ELEMENT, store, 0, 3, index -> store.conflict(0, index));
        store.settle(0, 64, false);
        Edge.range("conflict with one settled", Check.NO_ELEMENT, store, 0, 2, index -> store.conflict(0, index));
        CindermapStore edited = new CindermapStore();
        edited.open();
        edited.paint(0, 0, 0, 0, 7);
        Check.fails("conflict(0, 0) with an edit alone", Check.NO_ELEMENT, edited, () -> edited.conflict(0, 0));
        Check.fails("conflict(0, -1) with an edit alone", Check.NO_ELEMENT, edited, () -> edited.conflict(0, -1));
    }

    private static void conflictsLeft() {
        CindermapStore store = fourConflicts();
        Check.is("settle(0, 191, true)", store.settle(0, 191, true), 3);
        Check.is("edits(0) with the own edit counting", store.edits(0), 5);
        Check.is("settle(0, 0, false)", store.settle(0, 0, false), 2);
        Check.is("edits(0) with an edit taken away", store.edits(0), 4);
        Check.is("seen(0, 0) with the edit taken away", store.seen(0, 0), 0);
        Check.is("seen(0, 191) with the own edit counting", store.seen(0, 191), 1);
        Check.is("settle(0, 64, true)", store.settle(0, 64, true), 1);
        Check.is("settle(0, 63, false)", store.settle(0, 63, false), 0);
        Check.is("merge(0)", store.merge(0), 3);
        Check.is("value(191, 2)", store.value(191, 2), 1);
        Check.is("value(64, 2)", store.value(64, 2), 1);
        Check.is("value(0, 2)", store.value(0, 2), 2);
    }

    private static void wrongSpots() {
        CindermapStore store = fourConflicts();
        for (int spot : new int[] {-1, 304, Integer.MIN_VALUE, Integer.MAX_VALUE}) {
            Check.fails("settle(0, " + spot + ", true)", Check.ARGUMENT, store, () -> store.settle(0, spot, true));
            Check.fails("settle(0, " + spot + ", false)", Check.ARGUMENT, store, () -> store.settle(0, spot, false));
        }
        Check.fails("settle(0, 303, true)", Check.UNSUPPORTED, store, () -> store.settle(0, 303, true));
        Check.is("settle(0, 0, true)", store.settle(0, 0, true), 3);
    }

    private static void noConflict() {
        for (boolean own : new boolean[] {false, true}) {
            CindermapStore store = fourConflicts();
            Check.fails("settle of no edit", Check.UNSUPPORTED, store, () -> store.settle(0, 1, own));
            Check.fails("settle of an edit that is no conflict", Check.UNSUPPORTED, store, () -> store.settle(0, 36, own));
            store.settle(0, 63, own);
            Check.fails("settle again", Check.UNSUPPORTED, store, () -> store.settle(0, 63, own));
            Check.fails("settle again, the other way", Check.UNSUPPORTED, store, () -> store.settle(0, 63, !own));
            store.paint(0, 0, 0, 0, 2);
            Check.fails("settle of an edit as the map is", Check.UNSUPPORTED, store, () -> store.settle(0, 0, own));
            store.undo();
            Check.fails("settle with the map back", Check.UNSUPPORTED, store, () -> store.settle(0, 191, own));
        }
    }
}
