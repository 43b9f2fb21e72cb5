/** Boundary cases of promises 26 to 28: walks that are paused while the map changes. */
final class WalkEdges {
    private static final String FULL = "99999999";

    private WalkEdges() {
    }

    static void run() {
        Edge.of(28, "A walk goes through the places of an area in a layer, by their numbers;", WalkEdges::allPlaces);
        Edge.of(28, "each step takes the next place behind the last one that is of the area by then, whatever happens in"
            + " between;", WalkEdges::changesInBetween);
        Edge.of(26, "there is one walk at a time.", WalkEdges::oneWalk);
        Edge.of(26, "Returns how many places it has by now.", WalkEdges::noneToAllPlaces);
        Edge.of(26, "Throws `IllegalArgumentException` if a number is out of range", WalkEdges::wrongWalks);
        Edge.of(27, "Returns whether the walk goes on by now.", WalkEdges::onByNow);
        Edge.of(27, "Returns true if so, false without a walk.", WalkEdges::noWalk);
        Edge.of(28, "Returns the place, 8 times y plus x.", WalkEdges::firstAndLastPlace);
        Edge.of(28, "Throws `IllegalStateException` if there is no walk", WalkEdges::noStepWithoutAWalk);
        Edge.of(28, "Throws `NoSuchElementException` if it does not go on by now", WalkEdges::noStepAtTheEnd);
    }

    private static void nextIs(CindermapStore store, int due) {
        Check.is("hasNext() before " + due, store.hasNext(), true);
        Check.is("next()", store.next(), due);
    }

    private static void ends(CindermapStore store, String told) {
        Check.is("hasNext() " + told, store.hasNext(), false);
        Check.fails("next() " + told, Check.NO_ELEMENT, store, store::next);
    }

    private static void allPlaces() {
        CindermapStore store = Check.drawn(FULL, FULL, FULL, FULL, FULL, FULL, FULL, FULL);
        Check.is("walk(0, 9)", store.walk(0, 9), 64);
        for (int place = 0; place < 64; place++) {
            nextIs(store, place);
        }
        ends(store, "behind all places");
        CindermapStore mixed = Check.drawn("21.2", "", "", "1......2");
        mixed.walk(0, 2);
        nextIs(mixed, 0);
        nextIs(mixed, 3);
        nextIs(mixed, 31);
        ends(mixed, "behind the area's places");
        for (int layer = 0; layer < 3; layer++) {
            CindermapStore layers = new CindermapStore();
            for (int other = 0; other < 3; other++) {
                Check.bring(layers, other, 7 - other, other, 4);
            }
            Check.is("walk(" + layer + ", 4)", layers.walk(layer, 4), 1);
            nextIs(layers, 7 + 7 * layer);
            ends(layers, "behind the layer's only place");
        }
        CindermapStore next = Check.drawn("", "", "", "", "", "", "", ".......4");
        Check.bring(next, 1, 0, 0, 4);
        next.walk(0, 4);
        nextIs(next, 63);
        ends(next, "behind the last place, with the next layer's first");
    }

    private static void changesInBetween() {
        CindermapStore store = Check.drawn(".3.3.3");
        store.walk(0, 3);
        nextIs(store, 1);
        Check.bring(store, 0, 0, 0, 3);
        Check.bring(store, 0, 1, 0, 0);
        Check.bring(store, 0, 3, 0, 4);
        nextIs(store, 5);
        Check.bring(store, 1, 7, 7, 3);
        ends(store, "with a place of another layer");
        Check.bring(store, 0, 5, 0, 0);
        Check.bring(store, 0, 5, 0, 3);
        ends(store, "with the last place taken away and back");
        Check.bring(store, 0, 6, 0, 3);
        Check.is("hasNext() with the place behind it", store.hasNext(), true);
        store.undo();
        ends(store, "with the place behind it undone");
        Check.bring(store, 0, 7, 7, 3);
        nextIs(store, 63);
        ends(store, "behind the last place of all");
        store.open();
        store.paint(0, 0, 2, 0, 3);
        store.walk(0, 3);
        nextIs(store, 0);
        nextIs(store, 5);
        Check.is("walk(0, 3), an edit not counting", store.walk(0, 3), 3);
    }

    private static void oneWalk() {
        CindermapStore store = Check.drawn("2323");
        store.walk(0, 2);
        nextIs(store, 0);
        store.walk(0, 3);
        nextIs(store, 1);
        store.walk(0, 3);
        nextIs(store, 1);
        nextIs(store, 3);
        ends(store, "of the last walk begun");
        store.walk(0, 2);
        nextIs(store, 0);
    }

    private static void noneToAllPlaces() {
        CindermapStore store = Check.drawn(FULL, FULL, FULL, FULL, FULL, FULL, FULL, "99999991");
        Check.is("walk(0, 8)", store.walk(0, 8), 0);
        Check.is("walk(0, 1)", store.walk(0, 1), 1);
        Check.is("walk(0, 9)", store.walk(0, 9), 63);
        store.next();
        Check.bring(store, 0, 7, 7, 9);
        Check.is("walk(0, 9) again, of all", store.walk(0, 9), 64);
        Check.is("walk(2, 9)", store.walk(2, 9), 0);
    }

    private static void wrongWalks() {
        CindermapStore store = Check.drawn("1");
        Edge.range("walk, layer", Check.ARGUMENT, store, 0, 2, layer -> store.walk(layer, 9));
        Edge.range("walk, area", Check.ARGUMENT, store, 1, 9, area -> store.walk(0, area));
        store.walk(0, 1);
        Check.fails("walk(0, 0)", Check.ARGUMENT, store, () -> store.walk(0, 0));
        nextIs(store, 0);
    }

    private static void onByNow() {
        CindermapStore store = Check.drawn("7");
        store.walk(0, 7);
        Check.is("hasNext() with one place", store.hasNext(), true);
        Check.is("hasNext() asked again", store.hasNext(), true);
        store.undo();
        Check.is("hasNext() with none by now", store.hasNext(), false);
        Check.bring(store, 0, 7, 7, 7);
        Check.is("hasNext() with another one by now", store.hasNext(), true);
        nextIs(store, 63);
        Check.is("hasNext() behind it", store.hasNext(), false);
    }

    private static void noWalk() {
        CindermapStore store = Check.drawn("12345678");
        Check.is("hasNext() without a walk", store.hasNext(), false);
        Check.fails("walk(3, 1)", Check.ARGUMENT, store, () -> store.walk(3, 1));
        Check.is("hasNext() behind a refused walk", store.hasNext(), false);
    }

    private static void firstAndLastPlace() {
        CindermapStore store = Check.drawn("4......4", "4", "", "", "", "", "", "4......4");
        Check.is("walk(0, 4)", store.walk(0, 4), 5);
        for (int place : new int[] {0, 7, 8, 56, 63}) {
            nextIs(store, place);
        }
    }

    private static void noStepWithoutAWalk() {
        CindermapStore store = Check.drawn("1");
        Check.fails("next() without a walk", Check.STATE, store, store::next);
        Check.fails("walk(0, 10)", Check.ARGUMENT, store, () -> store.walk(0, 10));
        Check.fails("next() behind a refused walk", Check.STATE, store, store::next);
    }

    private static void noStepAtTheEnd() {
        CindermapStore store = Check.drawn("1");
        store.walk(0, 2);
        ends(store, "of an area without places");
        store.walk(0, 1);
        nextIs(store, 0);
        ends(store, "behind the only place");
        ends(store, "asked again");
    }
}
