/** Boundary cases of promises 16 to 19: values, changes and routes by versions. */
final class HistoryEdges {
    private HistoryEdges() {
    }

    static void run() {
        Edge.of(16, "Returns what a spot had by a version. Returns the value.", HistoryEdges::firstAndLastVersions);
        Edge.of(16, "Throws `IllegalArgumentException` if a number is out of range,", HistoryEdges::wrongSpotsOfValue);
        Edge.of(16, "or there is no such version", HistoryEdges::versionsOfValue);
        Edge.of(17, "Returns how many versions changed a spot. Returns how many.", HistoryEdges::noneToFortyChanges);
        Edge.of(17, "Throws `IllegalArgumentException` if a number is out of range",
            () -> spotsOf("changes", CindermapStore::changes));
        Edge.of(18, "Returns a version that changed a spot. Returns the version.", HistoryEdges::firstAndLastChanges);
        Edge.of(18, "Throws `IllegalArgumentException` if a number is out of range", HistoryEdges::wrongSpotsOfChanged);
        Edge.of(18, "Throws `NoSuchElementException` if there is none", HistoryEdges::noSuchChange);
        Edge.of(19, "Returns how many roads the shortest route has. Returns how many.", HistoryEdges::noneToAllRoads);
        Edge.of(19, "Throws `IllegalArgumentException` if a number is out of range,", HistoryEdges::wrongPlaces);
        Edge.of(19, "or there is no such version", HistoryEdges::versionsOfRoute);
        Edge.of(19, "Throws `NoSuchElementException` if there is no route", HistoryEdges::noRoute);
    }

    /** The versions 0 to 4 of the spot 191 are 0, 9, 9, 1 and 9; the last is an undo. */
    private static CindermapStore changed() {
        CindermapStore store = new CindermapStore();
        Check.bring(store, 2, 7, 7, 9);
        Check.bring(store, 0, 0, 0, 5);
        Check.bring(store, 2, 7, 7, 1);
        store.undo();
        return store;
    }

    private static void firstAndLastVersions() {
        CindermapStore store = changed();
        int[] last = {0, 9, 9, 1, 9};
        int[] first = {0, 0, 5, 5, 5};
        for (int version = 0; version <= 4; version++) {
            Check.is("value(191, " + version + ")", store.value(191, version), last[version]);
            Check.is("value(0, " + version + ")", store.value(0, version), first[version]);
        }
    }

    private interface SpotCall {
        int of(CindermapStore store, int spot);
    }

    private static void spotsOf(String name, SpotCall call) {
        CindermapStore store = changed();
        Edge.range(name, Check.ARGUMENT, store, 0, 303, spot -> call.of(store, spot));
    }

    private static void wrongSpotsOfValue() {
        spotsOf("value by the first version", (store, spot) -> store.value(spot, 0));
        CindermapStore store = changed();
        Edge.range("value by the last version", Check.ARGUMENT, store, 0, 303, spot -> store.value(spot, 4));
    }

    private static void versionsOfValue() {
        CindermapStore empty = new CindermapStore();
        Edge.range("value, version", Check.ARGUMENT, empty, 0, 0, version -> empty.value(0, version));
        CindermapStore store = changed();
        Edge.range("value, version", Check.ARGUMENT, store, 0, 4, version -> store.value(303, version));
        Check.bring(store, 0, 0, 0, 6);
        Edge.range("value, version, one more", Check.ARGUMENT, store, 0, 5, version -> store.value(303, version));
    }

    private static CindermapStore changedAlways() {
        CindermapStore store = new CindermapStore();
        for (int version = 1; version <= 40; version++) {
            Check.bring(store, 2, 7, 7, version % 2);
        }
        return store;
    }

    private static void noneToFortyChanges() {
        CindermapStore store = changed();
        Check.is("changes(1), never", store.changes(1), 0);
        Check.is("changes(303), never", store.changes(303), 0);
        Check.is("changes(0), once", store.changes(0), 1);
        Check.is("changes(191), an undo counting as well", store.changes(191), 3);
        CindermapStore full = changedAlways();
        Check.is("changes(191), always", full.changes(191), 40);
        Check.is("changes(190), never", full.changes(190), 0);
        Edge.range("value, version", Check.ARGUMENT, full, 0, 40,
            version -> Check.is("value(191, " + version + ")", full.value(191, version), version % 2));
    }

    private static void firstAndLastChanges() {
        CindermapStore store = changed();
        Check.is("changed(191, 0)", store.changed(191, 0), 1);
        Check.is("changed(191, 1)", store.changed(191, 1), 3);
        Check.is("changed(191, 2)", store.changed(191, 2), 4);
        Check.is("changed(0, 0)", store.changed(0, 0), 2);
        CindermapStore full = changedAlways();
        Edge.range("changed", Check.NO_ELEMENT, full, 0, 39,
            index -> Check.is("changed(191, " + index + ")", full.changed(191, index), index + 1));
    }

    private static void wrongSpotsOfChanged() {
        CindermapStore store = changed();
        for (int spot : new int[] {-1, 304, Integer.MIN_VALUE, Integer.MAX_VALUE}) {
            Check.fails("changed(" + spot + ", 0)", Check.ARGUMENT, store, () -> store.changed(spot, 0));
        }
        CindermapStore all = new CindermapStore();
        all.open();
        MapEdges.editAll(all, 0, 9);
        all.merge(0);
        for (int spot : new int[] {0, 63, 64, 191, 192, 247, 248, 303}) {
            Check.is("changed(" + spot + ", 0)", all.changed(spot, 0), 1);
        }
    }

    private static void noSuchChange() {
        CindermapStore store = changed();
        Edge.range("changed of three", Check.NO_ELEMENT, store, 0, 2, index -> store.changed(191, index));
        Edge.range("changed of one", Check.NO_ELEMENT, store, 0, 0, index -> store.changed(0, index));
        Check.fails("changed of none", Check.NO_ELEMENT, store, () -> store.changed(303, 0));
        CindermapStore empty = new CindermapStore();
        Check.fails("changed without versions", Check.NO_ELEMENT, empty, () -> empty.changed(0, 0));
        Check.fails("changed without versions, -1", Check.NO_ELEMENT, empty, () -> empty.changed(0, -1));
    }

    private static void noneToAllRoads() {
        CindermapStore store = Check.snake();
        Check.is("route(0, 0, 1)", store.route(0, 0, 1), 0);
        Check.is("route(63, 63, 0), without roads", store.route(63, 63, 0), 0);
        Check.is("route(0, 1, 1)", store.route(0, 1, 1), 1);
        Check.is("route(56, 57, 1)", store.route(56, 57, 1), 1);
        Check.is("route(7, 15, 1)", store.route(7, 15, 1), 1);
        Check.is("route(15, 7, 1), up", store.route(15, 7, 1), 1);
        Check.is("route(1, 0, 1), to the left", store.route(1, 0, 1), 1);
        Check.is("route(0, 56, 1), through all", store.route(0, 56, 1), 63);
        Check.is("route(56, 0, 1), through all", store.route(56, 0, 1), 63);
        store.open();
        store.road(0, 0, 6, true, true);
        store.merge(0);
        store.open();
        store.road(0, 0, 0, true, true);
        store.merge(0);
        Check.is("route(0, 8, 2), around", store.route(0, 8, 2), 15);
        Check.is("route(0, 8, 3), the shorter one", store.route(0, 8, 3), 1);
    }

    private static void wrongPlaces() {
        CindermapStore store = Check.snake();
        Edge.range("route, from", Check.ARGUMENT, store, 0, 63, from -> store.route(from, 0, 1));
        Edge.range("route, to", Check.ARGUMENT, store, 0, 63, to -> store.route(0, to, 1));
    }

    private static void versionsOfRoute() {
        CindermapStore empty = new CindermapStore();
        Edge.range("route, version", Check.ARGUMENT, empty, 0, 0, version -> empty.route(5, 5, version));
        CindermapStore store = changed();
        Edge.range("route, version", Check.ARGUMENT, store, 0, 4, version -> store.route(63, 63, version));
    }

    private static void noRoute() {
        CindermapStore store = new CindermapStore();
        Check.fails("route(0, 1, 0), without roads", Check.NO_ELEMENT, store, () -> store.route(0, 1, 0));
        store.open();
        store.road(0, 0, 0, false, true);
        store.road(0, 6, 1, false, true);
        store.road(0, 7, 1, true, true);
        store.road(0, 0, 6, true, true);
        store.merge(0);
        Check.is("route(0, 1, 1)", store.route(0, 1, 1), 1);
        Check.fails("route(0, 1, 0), before the road", Check.NO_ELEMENT, store, () -> store.route(0, 1, 0));
        Check.fails("route(1, 2, 1), no road", Check.NO_ELEMENT, store, () -> store.route(1, 2, 1));
        Check.fails("route(0, 8, 1), no road down", Check.NO_ELEMENT, store, () -> store.route(0, 8, 1));
        Check.fails("route(15, 16, 1), over the row's end", Check.NO_ELEMENT, store, () -> store.route(15, 16, 1));
        Check.fails("route(0, 63, 1), no way on", Check.NO_ELEMENT, store, () -> store.route(0, 63, 1));
        store.undo();
        Check.is("route(0, 1, 1), undone since", store.route(0, 1, 1), 1);
        Check.fails("route(0, 1, 2), undone", Check.NO_ELEMENT, store, () -> store.route(0, 1, 2));
    }
}
