/** Boundary cases of promises 13 to 15: merges, what undoes them, and the 40 versions. */
final class MergeEdges {
    private MergeEdges() {
    }

    static void run() {
        Edge.of(13, "To merge a branch, which has no conflict, brings its edits to the map, if all rules hold then;",
            MergeEdges::rulesHoldOfTheMapThen);
        Edge.of(13, "the branch is closed.", MergeEdges::aMergedBranchIsClosed);
        Edge.of(13, "If that changes something, it is a version more.", MergeEdges::onlyChangesAreVersions);
        Edge.of(14, "To undo the last merge that was not undone brings what it changed back, if all rules hold then, and"
            + " is a version more, too.", MergeEdges::theLastMergeThatWasNotUndone);
        Edge.of(15, "At most 40 versions, that of the beginning aside.", MergeEdges::versionsUpToForty);
        Edge.of(13, "Returns how many spots of the map change.", MergeEdges::noneToAllSpotsChange);
        Edge.of(13, "Throws `IndexOutOfBoundsException` if there is no such branch",
            () -> Edge.noSuchBranch("merge", CindermapStore::merge));
        Edge.of(13, "Throws `UnsupportedOperationException` if it has a conflict,", MergeEdges::mergeOfAConflict);
        Edge.of(13, "or a rule would be broken", MergeEdges::mergeAgainstARule);
        Edge.of(13, "Throws `IllegalStateException` if something would change, and there are 40 versions",
            MergeEdges::mergeWithFortyVersions);
        Edge.of(14, "Returns how many spots of the map change.", MergeEdges::allSpotsChangeBack);
        Edge.of(14, "Throws `NoSuchElementException` if there is none", MergeEdges::nothingToUndo);
        Edge.of(14, "Throws `UnsupportedOperationException` if a rule would be broken", MergeEdges::undoAgainstARule);
        Edge.of(14, "Throws `IllegalStateException` if there are 40 versions", MergeEdges::undoWithFortyVersions);
        Edge.of(15, "Returns the version of the map. Returns the version.", MergeEdges::theVersionGoesUpByOne);
    }

    private static void rulesHoldOfTheMapThen() {
        CindermapStore store = new CindermapStore();
        store.rule('c', 0, 1);
        store.open();
        store.open();
        store.paint(0, 0, 3, 3, 1);
        store.paint(1, 1, 3, 3, 1);
        Check.fails("merge(0) before what it needs", Check.UNSUPPORTED, store, () -> store.merge(0));
        Check.is("merge(1)", store.merge(1), 1);
        Check.is("merge(0) behind what it needs", store.merge(0), 1);
        store.open();
        store.open();
        store.paint(0, 0, 3, 3, 0);
        store.paint(1, 1, 3, 3, 0);
        Check.fails("merge(1) before the other", Check.UNSUPPORTED, store, () -> store.merge(1));
        Check.is("merge(0)", store.merge(0), 1);
        Check.is("merge(1) behind the other", store.merge(1), 1);
        Check.is("version()", store.version(), 4);
    }

    private static void aMergedBranchIsClosed() {
        CindermapStore store = new CindermapStore();
        store.open();
        store.open();
        store.paint(1, 0, 0, 0, 1);
        store.merge(1);
        Check.fails("edits(1), merged", Check.INDEX, store, () -> store.edits(1));
        Check.fails("merge(1), merged", Check.INDEX, store, () -> store.merge(1));
        store.merge(0);
        Check.fails("edits(0), merged without edits", Check.INDEX, store, () -> store.edits(0));
        Check.is("open()", store.open(), 0);
        Check.is("edits(0), opened again", store.edits(0), 0);
        Check.is("seen(0, 0), opened again", store.seen(0, 0), 1);
    }

    private static void onlyChangesAreVersions() {
        CindermapStore store = new CindermapStore();
        store.open();
        store.open();
        store.open();
        Check.is("merge(2) without edits", store.merge(2), 0);
        Check.is("version()", store.version(), 0);
        store.paint(0, 0, 0, 0, 1);
        store.paint(1, 0, 0, 0, 1);
        Check.is("merge(0)", store.merge(0), 1);
        Check.is("version()", store.version(), 1);
        Check.is("merge(1) of the same", store.merge(1), 0);
        Check.is("version()", store.version(), 1);
        Check.is("changes(0)", store.changes(0), 1);
        store.open();
        store.road(0, 7, 6, true, true);
        Check.is("merge(0) of a road", store.merge(0), 1);
        Check.is("version()", store.version(), 2);
    }

    private static void theLastMergeThatWasNotUndone() {
        CindermapStore store = new CindermapStore();
        Check.bring(store, 0, 0, 0, 1);
        Check.bring(store, 0, 0, 0, 2);
        Check.is("undo() of the second", store.undo(), 1);
        Check.is("value(0, 3)", store.value(0, 3), 1);
        Check.bring(store, 0, 0, 0, 3);
        Check.bring(store, 0, 1, 0, 4);
        store.open();
        store.merge(0);
        Check.is("undo() of the fourth, a merge of nothing behind it", store.undo(), 1);
        Check.is("value(1, 6)", store.value(1, 6), 0);
        Check.is("value(0, 6)", store.value(0, 6), 3);
        Check.is("undo() of the third", store.undo(), 1);
        Check.is("value(0, 7)", store.value(0, 7), 1);
        Check.is("undo() of the first", store.undo(), 1);
        Check.is("value(0, 8)", store.value(0, 8), 0);
        Check.is("version()", store.version(), 8);
        Check.fails("undo() of nothing", Check.NO_ELEMENT, store, store::undo);
    }

    /** An object at that version; its merges paint the last place 1 and 2 by turns. */
    private static CindermapStore atVersion(int last) {
        CindermapStore store = new CindermapStore();
        for (int version = 1; version <= last; version++) {
            Check.is("merge of version " + version, Check.bring(store, 2, 7, 7, 2 - version % 2), 1);
        }
        return store;
    }

    private static void versionsUpToForty() {
        CindermapStore store = atVersion(39);
        Check.is("version()", store.version(), 39);
        Check.is("merge of version 40", Check.bring(store, 0, 0, 0, 9), 1);
        Check.is("version()", store.version(), 40);
        store.open();
        store.paint(0, 0, 0, 0, 8);
        Check.fails("merge(0)", Check.STATE, store, () -> store.merge(0));
        Check.fails("undo()", Check.STATE, store, store::undo);
        Check.is("value(0, 40)", store.value(0, 40), 9);
        Check.is("value(191, 0)", store.value(191, 0), 0);
        Check.is("isSound()", store.isSound(), true);
    }

    private static void mergeWithFortyVersions() {
        CindermapStore store = atVersion(39);
        store.open();
        store.open();
        store.paint(0, 0, 0, 0, 8);
        store.paint(1, 0, 0, 0, 8);
        Check.is("merge(0) with 39", store.merge(0), 1);
        store.paint(1, 0, 1, 0, 8);
        Check.fails("merge(1) with 40, of one spot that is so and one that is not", Check.STATE, store,
            () -> store.merge(1));
        store.paint(1, 0, 1, 0, 0);
        Check.is("merge(1) with 40, of what the map has", store.merge(1), 0);
        Check.fails("edits(1), closed", Check.INDEX, store, () -> store.edits(1));
        store.open();
        Check.is("merge(0) with 40, without edits", store.merge(0), 0);
        Check.is("version()", store.version(), 40);
    }

    private static void undoWithFortyVersions() {
        CindermapStore store = atVersion(39);
        Check.is("undo() with 39", store.undo(), 1);
        Check.is("version()", store.version(), 40);
        Check.is("value(191, 40)", store.value(191, 40), 2);
        Check.fails("undo() with 40", Check.STATE, store, store::undo);
    }

    private static void noneToAllSpotsChange() {
        CindermapStore store = new CindermapStore();
        store.open();
        Check.is("merge(0) of nothing", store.merge(0), 0);
        store.open();
        store.open();
        MapEdges.editAll(store, 0, 9);
        store.paint(1, 0, 0, 0, 9);
        store.paint(1, 0, 1, 0, 9);
        store.road(1, 0, 0, true, true);
        Check.is("merge(1)", store.merge(1), 3);
        Check.is("edits(0)", store.edits(0), 304);
        Check.is("merge(0) of all, three of which are so", store.merge(0), 301);
        CindermapStore all = new CindermapStore();
        all.open();
        MapEdges.editAll(all, 0, 1);
        Check.is("merge(0) of all", all.merge(0), 304);
        Check.is("version()", all.version(), 1);
    }

    private static void mergeOfAConflict() {
        CindermapStore store = new CindermapStore();
        store.open();
        store.paint(0, 2, 7, 7, 1);
        store.paint(0, 2, 6, 7, 1);
        Check.bring(store, 2, 7, 7, 2);
        Check.fails("merge(0) with one conflict", Check.UNSUPPORTED, store, () -> store.merge(0));
        Check.is("edits(0) after the refused merge", store.edits(0), 2);
        store.settle(0, 191, true);
        Check.is("merge(0) with none", store.merge(0), 2);
        CindermapStore away = new CindermapStore();
        away.open();
        away.paint(0, 0, 0, 0, 1);
        Check.bring(away, 0, 0, 0, 2);
        away.settle(0, 0, false);
        Check.is("merge(0) with the edit taken away", away.merge(0), 0);
        Check.is("value(0, 1)", away.value(0, 1), 2);
    }

    private static void mergeAgainstARule() {
        CindermapStore store = new CindermapStore();
        for (int number = 0; number < 5; number++) {
            store.rule('m', 0, 0);
        }
        store.rule('w', 2, 0);
        store.open();
        store.paint(0, 2, 7, 7, 1);
        store.paint(0, 2, 5, 7, 1);
        Check.fails("merge(0) against the last rule", Check.UNSUPPORTED, store, () -> store.merge(0));
        store.paint(0, 2, 6, 7, 1);
        store.road(0, 3, 3, false, true);
        Check.fails("merge(0) against the first rule", Check.UNSUPPORTED, store, () -> store.merge(0));
        store.road(0, 3, 3, false, false);
        Check.is("merge(0) with all rules kept", store.merge(0), 3);
    }

    private static void allSpotsChangeBack() {
        CindermapStore store = new CindermapStore();
        store.open();
        MapEdges.editAll(store, 0, 9);
        store.merge(0);
        Check.is("undo() of all spots", store.undo(), 304);
        Check.is("version()", store.version(), 2);
        for (int spot : new int[] {0, 63, 64, 191, 192, 247, 248, 303}) {
            Check.is("value(" + spot + ", 2)", store.value(spot, 2), 0);
            Check.is("value(" + spot + ", 1)", store.value(spot, 1), spot < 192 ? 9 : 1);
        }
        Check.bring(store, 0, 0, 0, 1);
        Check.is("undo() of one spot", store.undo(), 1);
    }

    private static void nothingToUndo() {
        CindermapStore store = new CindermapStore();
        Check.fails("undo() of a new object", Check.NO_ELEMENT, store, store::undo);
        store.open();
        store.merge(0);
        Check.fails("undo() behind a merge of nothing", Check.NO_ELEMENT, store, store::undo);
        Check.bring(store, 0, 0, 0, 1);
        Check.is("undo() of a merge", store.undo(), 1);
        Check.fails("undo() behind an undo", Check.NO_ELEMENT, store, store::undo);
        Check.bring(store, 0, 0, 0, 1);
        Check.is("undo() of another merge", store.undo(), 1);
        Check.fails("undo() with all undone", Check.NO_ELEMENT, store, store::undo);
    }

    private static void undoAgainstARule() {
        CindermapStore store = Check.drawn("1");
        Check.bring(store, 1, 0, 0, 1);
        store.rule('g', 2, 0);
        store.rule('c', 0, 1);
        Check.fails("undo() against the last rule", Check.UNSUPPORTED, store, store::undo);
        Check.bring(store, 0, 0, 0, 0);
        Check.is("undo() of a later merge", store.undo(), 1);
        Check.fails("undo() of the same merge", Check.UNSUPPORTED, store, store::undo);
        Check.is("version()", store.version(), 4);
    }

    private static void theVersionGoesUpByOne() {
        CindermapStore store = new CindermapStore();
        Check.is("version() of a new object", store.version(), 0);
        store.open();
        store.paint(0, 0, 0, 0, 1);
        Check.is("version() with an edit", store.version(), 0);
        store.paint(0, 0, 1, 0, 1);
        store.merge(0);
        Check.is("version() after a merge of two spots", store.version(), 1);
        store.undo();
        Check.is("version() after an undo", store.version(), 2);
        store.open();
        store.drop(0);
        Check.is("version() after a drop", store.version(), 2);
    }
}
