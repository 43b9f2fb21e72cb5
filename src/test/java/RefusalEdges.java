/** Boundary cases of all promises: what refused calls change, which exception comes first, and 512 calls. */
final class RefusalEdges {
    private static final String NOTHING = "A method that throws an exception changes nothing.";
    private static final String FIRST = "If several exceptions apply, the one that is listed first is thrown.";

    private RefusalEdges() {
    }

    static void run() {
        Edge.of(1, "An object is used for at most 512 calls after it has been made; what later calls answer is free.",
            RefusalEdges::fiveHundredTwelveCalls);
        nothingChanges();
        Edge.of(2, FIRST, RefusalEdges::firstOfRule);
        Edge.of(5, FIRST, RefusalEdges::firstOfPaint);
        Edge.of(6, FIRST, RefusalEdges::firstOfRoad);
        Edge.of(7, FIRST, RefusalEdges::firstOfSeen);
        Edge.of(10, FIRST, RefusalEdges::firstOfConflict);
        Edge.of(11, FIRST, RefusalEdges::firstOfSettle);
        Edge.of(13, FIRST, RefusalEdges::firstOfMerge);
        Edge.of(14, FIRST, RefusalEdges::firstOfUndo);
        Edge.of(18, FIRST, RefusalEdges::firstOfChanged);
        Edge.of(19, FIRST, RefusalEdges::firstOfRoute);
        Edge.of(28, FIRST, RefusalEdges::firstOfNext);
        Edge.of(30, FIRST, RefusalEdges::firstOfNote);
        Edge.of(31, FIRST, RefusalEdges::firstOfHome);
        Edge.of(34, FIRST, RefusalEdges::firstOfMeanSize);
    }

    /** Fills all that has a limit, and looks at the last call that the document speaks of. */
    private static void fiveHundredTwelveCalls() {
        CindermapStore store = new CindermapStore();
        int calls = 0;
        for (int number = 0; number < 6; number++, calls++) {
            store.rule('m', 0, 0);
        }
        for (int device = 0; device < 3; device++, calls++) {
            store.device();
            for (int note = 0; note < 20; note++, calls++) {
                store.note(device, note, 0, 1, 0, 1);
            }
        }
        for (int version = 1; version <= 40; version++, calls += 3) {
            Check.bring(store, 2, 7, 7, 1 + version % 9);
        }
        for (int branch = 0; branch < 4; branch++, calls += 2) {
            store.open();
            store.home(branch % 3, branch, 3, 4);
        }
        while (calls < 511) {
            int spot = calls % 64;
            store.paint(calls % 4, 1, spot % 8, spot / 8, 9);
            calls++;
        }
        Check.is("the call 512, checksum()", store.checksum(), SumEdges.sumOf(40, new int[] {191, 1 + 40 % 9}));
    }

    /** An object with some of all: rules, versions, branches with conflicts, tiles, a walk, and notes. */
    private static CindermapStore busy() {
        CindermapStore store = Check.drawn("1.1", "22", "5.5");
        store.rule('x', 1, 0);
        store.rule('c', 2, 0);
        store.open();
        store.open();
        store.paint(0, 0, 0, 0, 3);
        store.paint(0, 0, 1, 0, 3);
        store.road(0, 3, 3, true, true);
        Check.bring(store, 0, 0, 0, 4);
        Check.bring(store, 0, 7, 7, 4);
        store.undo();
        store.paint(1, 1, 1, 1, 9);
        store.tile(2, 0, 0, 0);
        store.tile(8, 2, 0, 0);
        store.walk(0, 2);
        store.next();
        store.device();
        store.device();
        store.home(0, 1, 50, 40);
        store.note(0, 9, 0, 5, 5, 5);
        for (int note = 0; note < 20; note++) {
            store.note(1, note, 0, 6, 6, 6);
        }
        return store;
    }

    private interface Refused {
        Object of(CindermapStore store);
    }

    private static void nothing(int promise, Class<?> thrown, Refused... calls) {
        Edge.of(promise, NOTHING, () -> {
            CindermapStore store = busy();
            for (Refused call : calls) {
                Check.fails("a call that throws " + thrown.getSimpleName(), thrown, store, () -> call.of(store));
            }
            Check.is("next(), then", store.next(), 9);
            Check.is("edits(0), then", store.edits(0), 3);
            Check.is("conflicts(0), then", store.conflicts(0), 1);
            Check.is("merge(0), settled then", store.settle(0, 0, true) + store.merge(0), 3);
            Check.is("isKept(2, 0, 0, 0), then", store.isKept(2, 0, 0, 0), false);
            Check.is("home(1, 1, 0, 0), then", store.home(1, 1, 0, 0), 20);
            Check.is("home(0, 1, 0, 0), then", store.home(0, 1, 0, 0), 1);
            Check.is("undo(), then", store.undo() + store.undo(), 4);
            Check.is("version(), then", store.version(), 7);
            Check.is("rule(m, 0, 0), then", store.rule('m', 0, 0), 2);
            Check.is("open(), then", store.open(), 0);
            Check.is("device(), then", store.device(), 2);
            Check.is("made(), then", store.made(), 2);
        });
    }

    private static void nothingChanges() {
        nothing(2, Check.ARGUMENT, s -> s.rule('q', 0, 1), s -> s.rule('c', 0, 0), s -> s.rule('w', 3, 0));
        nothing(2, Check.UNSUPPORTED, s -> s.rule('w', 0, 0), s -> s.rule('c', 0, 1));
        nothing(4, Check.INDEX, s -> s.drop(2), s -> s.drop(-1));
        nothing(5, Check.ARGUMENT, s -> s.paint(0, 0, 0, 0, 10), s -> s.paint(0, 0, 8, 0, 5), s -> s.paint(0, 3, 0, 0, 5));
        nothing(6, Check.ARGUMENT, s -> s.road(0, 7, 0, false, true), s -> s.road(0, 0, 7, true, true));
        nothing(7, Check.ARGUMENT, s -> s.seen(0, 304), s -> s.seen(1, -1));
        nothing(8, Check.INDEX, s -> s.edits(2), s -> s.edits(4));
        nothing(9, Check.INDEX, s -> s.conflicts(2), s -> s.conflicts(-1));
        nothing(10, Check.NO_ELEMENT, s -> s.conflict(0, 1), s -> s.conflict(1, 0));
        nothing(11, Check.UNSUPPORTED, s -> s.settle(0, 1, false), s -> s.settle(1, 73, true), s -> s.settle(1, 0, false));
        nothing(12, Check.INDEX, s -> s.breaks(2), s -> s.breaks(-1));
        nothing(13, Check.UNSUPPORTED, s -> s.merge(0), s -> s.merge(1));
        nothing(13, Check.INDEX, s -> s.merge(2), s -> s.merge(4));
        nothing(16, Check.ARGUMENT, s -> s.value(0, 5), s -> s.value(304, 0));
        nothing(17, Check.ARGUMENT, s -> s.changes(304), s -> s.changes(-1));
        nothing(18, Check.NO_ELEMENT, s -> s.changed(0, 2), s -> s.changed(303, 0));
        nothing(19, Check.NO_ELEMENT, s -> s.route(0, 63, 3), s -> s.route(27, 35, 0));
        nothing(20, Check.ARGUMENT, s -> s.tile(3, 0, 0, 0), s -> s.tile(8, 0, 1, 0), s -> s.tile(1, 3, 0, 0));
        nothing(21, Check.ARGUMENT, s -> s.isKept(16, 0, 0, 0), s -> s.isKept(4, 0, 0, 2));
        nothing(23, Check.ARGUMENT, s -> s.leaves(3), s -> s.leaves(-1));
        nothing(24, Check.ARGUMENT, s -> s.border(0, 1, 1), s -> s.border(0, 10, 1));
        nothing(25, Check.ARGUMENT, s -> s.size(0, 0), s -> s.size(3, 1));
        nothing(26, Check.ARGUMENT, s -> s.walk(0, 0), s -> s.walk(3, 1), s -> s.walk(0, 10));
        nothing(30, Check.STATE, s -> s.note(1, 0, 0, 0, 0, 1));
        nothing(30, Check.ARGUMENT, s -> s.note(0, 10000, 0, 0, 0, 1), s -> s.note(0, 0, 0, 0, 0, 10));
        nothing(31, Check.ARGUMENT, s -> s.home(0, 0, -1, 0), s -> s.home(1, 0, 0, 10000));
        nothing(31, Check.INDEX, s -> s.home(0, 2, 0, 0), s -> s.home(2, 0, 0, 0));
        nothing(32, Check.INDEX, s -> s.ahead(2), s -> s.ahead(-1));
        nothing(33, Check.ARGUMENT, s -> s.fullShare(3), s -> s.fullShare(-1));
        nothing(34, ArithmeticException.class, s -> s.meanSize(1), s -> s.meanSize(2));
        Edge.of(3, NOTHING, RefusalEdges::aRefusedOpen);
        Edge.of(14, NOTHING, RefusalEdges::aRefusedUndo);
        Edge.of(28, NOTHING, RefusalEdges::aRefusedStep);
        Edge.of(29, NOTHING, RefusalEdges::aRefusedDevice);
    }

    private static void aRefusedOpen() {
        CindermapStore store = busy();
        store.open();
        store.open();
        Check.fails("open() with 4", Check.STATE, store, store::open);
        Check.is("edits(0), then", store.edits(0), 3);
        store.drop(2);
        Check.is("open(), then", store.open(), 2);
    }

    private static void aRefusedUndo() {
        CindermapStore store = Check.drawn("1");
        store.rule('c', 1, 0);
        Check.bring(store, 1, 0, 0, 0);
        int branch = store.open();
        store.paint(branch, 1, 0, 0, 2);
        store.merge(branch);
        store.undo();
        Check.bring(store, 0, 1, 0, 2);
        store.undo();
        Check.is("undo() of the first", store.undo(), 1);
        Check.fails("undo() of nothing", Check.NO_ELEMENT, store, store::undo);
        Check.is("version(), then", store.version(), 6);
        Check.is("merge, then", Check.bring(store, 0, 0, 0, 3), 1);
        Check.is("undo(), then", store.undo(), 1);
        CindermapStore ruled = Check.drawn("1");
        ruled.tile(1, 0, 0, 0);
        Check.bring(ruled, 1, 0, 0, 1);
        ruled.rule('c', 0, 1);
        ruled.tile(1, 1, 0, 0);
        Check.fails("undo() against a rule", Check.UNSUPPORTED, ruled, ruled::undo);
        Check.is("value(64, 2), then", ruled.value(64, 2), 1);
        Check.is("isKept(1, 1, 0, 0), then", ruled.isKept(1, 1, 0, 0), true);
    }

    private static void aRefusedStep() {
        CindermapStore store = Check.drawn("1");
        Check.fails("next() without a walk", Check.STATE, store, store::next);
        Check.is("hasNext(), then", store.hasNext(), false);
        store.walk(0, 1);
        store.next();
        Check.fails("next() at the end", Check.NO_ELEMENT, store, store::next);
        Check.bring(store, 0, 1, 0, 1);
        Check.is("next(), then", store.next(), 1);
    }

    private static void aRefusedDevice() {
        CindermapStore store = busy();
        store.device();
        Check.fails("device() with 3", Check.STATE, store, store::device);
        Check.is("ahead(0), then", store.ahead(0), 10);
        Check.is("home(1, 1, 0, 0), then", store.home(1, 1, 0, 0), 20);
    }

    private static void firstOfRule() {
        CindermapStore store = Check.drawn("1.1");
        Check.fails("no such kind, of a map", Check.ARGUMENT, store, () -> store.rule('y', 0, 1));
        Check.fails("like layers that no map keeps apart", Check.ARGUMENT, store, () -> store.rule('x', 0, 0));
        for (int number = 0; number < 6; number++) {
            store.rule('g', 0, 0);
        }
        Check.fails("no such kind, with 6", Check.ARGUMENT, store, () -> store.rule('C', 0, 1));
        Check.fails("no such layer, with 6", Check.ARGUMENT, store, () -> store.rule('g', 3, 0));
        Check.fails("like layers, with 6", Check.ARGUMENT, store, () -> store.rule('x', 0, 0));
        Check.fails("a rule that is not kept, with 6", Check.UNSUPPORTED, store, () -> store.rule('w', 0, 0));
        Check.fails("another rule that is not kept, with 6", Check.UNSUPPORTED, store, () -> store.rule('c', 0, 2));
        Check.fails("a rule that is kept, with 6", Check.STATE, store, () -> store.rule('w', 1, 0));
    }

    private static void firstOfPaint() {
        CindermapStore store = new CindermapStore();
        store.open();
        Check.fails("paint(1, 3, 8, 8, 10)", Check.INDEX, store, () -> store.paint(1, 3, 8, 8, 10));
        Check.fails("paint(4, 0, 0, 0, -1)", Check.INDEX, store, () -> store.paint(4, 0, 0, 0, -1));
        Check.fails("paint(-1, -1, 0, 0, 1)", Check.INDEX, store, () -> store.paint(-1, -1, 0, 0, 1));
        Check.fails("paint(0, 0, 0, 0, -1)", Check.ARGUMENT, store, () -> store.paint(0, 0, 0, 0, -1));
    }

    private static void firstOfRoad() {
        CindermapStore store = new CindermapStore();
        store.open();
        Check.fails("road(1, 8, 8, true, true)", Check.INDEX, store, () -> store.road(1, 8, 8, true, true));
        Check.fails("road(4, 7, 0, false, true)", Check.INDEX, store, () -> store.road(4, 7, 0, false, true));
        Check.fails("road(-1, 0, 7, true, true)", Check.INDEX, store, () -> store.road(-1, 0, 7, true, true));
    }

    private static void firstOfSeen() {
        CindermapStore store = new CindermapStore();
        store.open();
        Check.fails("seen(1, 304)", Check.INDEX, store, () -> store.seen(1, 304));
        Check.fails("seen(4, -1)", Check.INDEX, store, () -> store.seen(4, -1));
        Check.fails("seen(-1, -1)", Check.INDEX, store, () -> store.seen(-1, -1));
    }

    private static void firstOfConflict() {
        CindermapStore store = new CindermapStore();
        store.open();
        Check.fails("conflict(1, 0)", Check.INDEX, store, () -> store.conflict(1, 0));
        Check.fails("conflict(4, -1)", Check.INDEX, store, () -> store.conflict(4, -1));
        Check.fails("conflict(0, 0)", Check.NO_ELEMENT, store, () -> store.conflict(0, 0));
    }

    private static void firstOfSettle() {
        CindermapStore store = new CindermapStore();
        store.open();
        Check.fails("settle(1, 304, true), no branch", Check.INDEX, store, () -> store.settle(1, 304, true));
        Check.fails("settle(1, 0, true), no branch", Check.INDEX, store, () -> store.settle(1, 0, true));
        Check.fails("settle(0, 304, true), no spot", Check.ARGUMENT, store, () -> store.settle(0, 304, true));
        Check.fails("settle(0, -1, false), no spot", Check.ARGUMENT, store, () -> store.settle(0, -1, false));
        Check.fails("settle(0, 0, false), no conflict", Check.UNSUPPORTED, store, () -> store.settle(0, 0, false));
    }

    private static void firstOfMerge() {
        CindermapStore store = new CindermapStore();
        store.open();
        store.paint(0, 0, 0, 0, 9);
        for (int version = 1; version <= 40; version++) {
            Check.bring(store, 0, 0, 0, version % 2 + 1);
        }
        Check.fails("merge(0) with a conflict and 40 versions", Check.UNSUPPORTED, store, () -> store.merge(0));
        store.settle(0, 0, true);
        Check.fails("merge(0) with 40 versions", Check.STATE, store, () -> store.merge(0));
        store.rule('c', 1, 0);
        store.paint(0, 1, 5, 5, 1);
        Check.fails("merge(0) with a rule broken and 40 versions", Check.UNSUPPORTED, store, () -> store.merge(0));
        Check.fails("merge(1) with 40 versions", Check.INDEX, store, () -> store.merge(1));
    }

    private static void firstOfUndo() {
        CindermapStore store = new CindermapStore();
        for (int version = 1; version <= 40; version += 2) {
            Check.bring(store, 0, 0, 0, 1);
            store.undo();
        }
        Check.is("version()", store.version(), 40);
        Check.fails("undo() of nothing with 40 versions", Check.NO_ELEMENT, store, store::undo);
        CindermapStore ruled = new CindermapStore();
        for (int version = 1; version <= 40; version++) {
            Check.bring(ruled, 0, 0, version == 40 ? 2 : 0, 1 + version % 2);
        }
        Check.fails("undo() with 40 versions", Check.STATE, ruled, ruled::undo);
        ruled.rule('g', 0, 0);
        Check.fails("undo() with a rule kept and 40 versions", Check.STATE, ruled, ruled::undo);
        CindermapStore broken = new CindermapStore();
        for (int version = 1; version <= 39; version++) {
            Check.bring(broken, 0, 0, 0, 1 + version % 2);
        }
        Check.bring(broken, 1, 0, 0, 1);
        broken.rule('c', 0, 1);
        Check.fails("undo() with a rule broken and 40 versions", Check.UNSUPPORTED, broken, broken::undo);
    }

    private static void firstOfChanged() {
        CindermapStore store = new CindermapStore();
        Check.fails("changed(304, 0)", Check.ARGUMENT, store, () -> store.changed(304, 0));
        Check.fails("changed(-1, -1)", Check.ARGUMENT, store, () -> store.changed(-1, -1));
        Check.fails("changed(303, 0)", Check.NO_ELEMENT, store, () -> store.changed(303, 0));
    }

    private static void firstOfRoute() {
        CindermapStore store = new CindermapStore();
        Check.fails("route(0, 64, 0)", Check.ARGUMENT, store, () -> store.route(0, 64, 0));
        Check.fails("route(0, 63, 1)", Check.ARGUMENT, store, () -> store.route(0, 63, 1));
        Check.fails("route(0, 63, 0)", Check.NO_ELEMENT, store, () -> store.route(0, 63, 0));
    }

    private static void firstOfNext() {
        CindermapStore store = new CindermapStore();
        Check.fails("next() without a walk or places", Check.STATE, store, store::next);
        store.walk(0, 1);
        Check.fails("next() without places", Check.NO_ELEMENT, store, store::next);
    }

    private static void firstOfNote() {
        CindermapStore store = new CindermapStore();
        store.device();
        for (int note = 0; note < 20; note++) {
            store.note(0, 0, 0, 0, 0, 0);
        }
        Check.fails("note(1, 10000, 3, 8, 8, 10)", Check.INDEX, store, () -> store.note(1, 10000, 3, 8, 8, 10));
        Check.fails("note(-1, -1, 0, 0, 0, 0)", Check.INDEX, store, () -> store.note(-1, -1, 0, 0, 0, 0));
        Check.fails("note(0, 10000, ..) with 20", Check.ARGUMENT, store, () -> store.note(0, 10000, 0, 0, 0, 0));
        Check.fails("note(0, .., 10) with 20", Check.ARGUMENT, store, () -> store.note(0, 0, 0, 0, 0, 10));
        Check.fails("note(0, 0, 3, ..) with 20", Check.ARGUMENT, store, () -> store.note(0, 0, 3, 0, 0, 0));
        Check.fails("note(0, ..) with 20", Check.STATE, store, () -> store.note(0, 0, 0, 0, 0, 0));
    }

    private static void firstOfHome() {
        CindermapStore store = new CindermapStore();
        store.device();
        store.open();
        Check.fails("home(1, 0, -1, 0)", Check.INDEX, store, () -> store.home(1, 0, -1, 0));
        Check.fails("home(0, 1, 0, 10000)", Check.INDEX, store, () -> store.home(0, 1, 0, 10000));
        Check.fails("home(3, 4, -1, -1)", Check.INDEX, store, () -> store.home(3, 4, -1, -1));
        Check.fails("home(0, 0, 10000, 0)", Check.ARGUMENT, store, () -> store.home(0, 0, 10000, 0));
    }

    private static void firstOfMeanSize() {
        CindermapStore store = new CindermapStore();
        Check.fails("meanSize(3)", Check.ARGUMENT, store, () -> store.meanSize(3));
        Check.fails("meanSize(-1)", Check.ARGUMENT, store, () -> store.meanSize(-1));
        Check.fails("meanSize(2)", ArithmeticException.class, store, () -> store.meanSize(2));
    }
}
