import java.util.Arrays;

/** Boundary cases of promise 1, and of the numbers of places, layers, areas, roads and spots. */
final class MapEdges {
    private MapEdges() {
    }

    static void run() {
        Edge.of(1, "All is empty at first, by the version 0.", MapEdges::allIsEmptyAtFirst);
        Edge.of(1, "Creates an empty map without rules, branches and devices.", MapEdges::nothingIsThereYet);
        Edge.of(5, "There are 8 by 8 places, x and y from 0 to 7, and the layers 0 to 2;", MapEdges::placesAndLayers);
        Edge.of(5, "in each layer a place has an area, 1 to 9, or none, 0.", MapEdges::areas);
        Edge.of(6, "A road can go from a place to the one right of it, or to the one below it.", MapEdges::roads);
        Edge.of(7, "A spot is a place in a layer, or a road that can be.", MapEdges::eachSpotIsOnePlaceOrRoad);
        Edge.of(7, "a place in a layer is 64 times the layer plus 8 times y plus x;", MapEdges::numbersOfPlaces);
        Edge.of(7, "a road to the right is 192 plus 7 times y plus x, one down 248 plus 8 times y plus x;",
            MapEdges::numbersOfRoads);
        Edge.of(7, "so there are 304.", MapEdges::numbersOfSpots);
        Edge.of(6, "The value of a road is 1 if it is there, else 0.", MapEdges::valuesOfRoads);
    }

    private static void allIsEmptyAtFirst() {
        CindermapStore store = new CindermapStore();
        Check.is("version()", store.version(), 0);
        for (int spot = 0; spot < 304; spot++) {
            Check.is("value(" + spot + ", 0)", store.value(spot, 0), 0);
        }
        for (int layer = 0; layer < 3; layer++) {
            Check.is("fullShare(" + layer + ")", store.fullShare(layer), 0.0f);
        }
        Check.fails("value(0, 1)", Check.ARGUMENT, store, () -> store.value(0, 1));
        store.open();
        Check.is("seen(0, 0)", store.seen(0, 0), 0);
        Check.is("seen(0, 303)", store.seen(0, 303), 0);
    }

    private static void nothingIsThereYet() {
        CindermapStore store = new CindermapStore();
        for (int number = 0; number < 4; number++) {
            int wanted = number;
            Check.fails("edits(" + number + ")", Check.INDEX, store, () -> store.edits(wanted));
            Check.fails("ahead(" + number + ")", Check.INDEX, store, () -> store.ahead(wanted));
        }
        Check.fails("undo()", Check.NO_ELEMENT, store, store::undo);
        Check.fails("next()", Check.STATE, store, store::next);
        Check.is("hasNext()", store.hasNext(), false);
        Check.is("made()", store.made(), 0);
        Check.is("isKept(8, 0, 0, 0)", store.isKept(8, 0, 0, 0), false);
        Check.is("the first open()", store.open(), 0);
        Check.is("breaks(0)", store.breaks(0), -1);
        Check.is("the first rule", store.rule('m', 0, 0), 0);
        Check.is("the first device()", store.device(), 0);
    }

    private static void placesAndLayers() {
        CindermapStore store = new CindermapStore();
        store.open();
        Edge.range("paint, x", Check.ARGUMENT, store, 0, 7, x -> store.paint(0, 0, x, 0, 1));
        Edge.range("paint, y", Check.ARGUMENT, store, 0, 7, y -> store.paint(0, 0, 7, y, 1));
        Edge.range("paint, layer", Check.ARGUMENT, store, 0, 2, layer -> store.paint(0, layer, 7, 7, 1));
        Check.is("edits(0)", store.edits(0), 8 + 7 + 2);
    }

    private static void areas() {
        CindermapStore store = Check.drawn("5");
        store.open();
        Edge.range("paint, area", Check.ARGUMENT, store, 0, 9, area -> {
            store.paint(0, 0, 0, 0, area);
            Check.is("seen(0, 0)", store.seen(0, 0), area);
        });
        Check.is("edits(0)", store.edits(0), 1);
    }

    private static void roads() {
        CindermapStore store = new CindermapStore();
        store.open();
        Edge.range("a road right, x", Check.ARGUMENT, store, 0, 6, x -> store.road(0, x, 0, false, true));
        Edge.range("a road right, y", Check.ARGUMENT, store, 0, 7, y -> store.road(0, 6, y, false, true));
        Edge.range("a road down, x", Check.ARGUMENT, store, 0, 7, x -> store.road(0, x, 0, true, true));
        Edge.range("a road down, y", Check.ARGUMENT, store, 0, 6, y -> store.road(0, 7, y, true, true));
        Check.is("edits(0)", store.edits(0), 7 + 7 + 8 + 6);
    }

    /** Edits all that can be, which must be each of the spots once. */
    static void editAll(CindermapStore store, int branch, int area) {
        for (int spot = 0; spot < 192; spot++) {
            store.paint(branch, spot / 64, spot % 8, spot % 64 / 8, area);
        }
        for (int y = 0; y < 8; y++) {
            for (int x = 0; x < 8; x++) {
                if (x < 7) {
                    store.road(branch, x, y, false, area > 0);
                }
                if (y < 7) {
                    store.road(branch, x, y, true, area > 0);
                }
            }
        }
    }

    private static void eachSpotIsOnePlaceOrRoad() {
        CindermapStore store = new CindermapStore();
        store.open();
        editAll(store, 0, 9);
        Check.is("edits(0)", store.edits(0), 304);
        int[] seen = new int[304];
        int[] due = new int[304];
        Arrays.fill(due, 0, 192, 9);
        Arrays.fill(due, 192, 304, 1);
        for (int spot = 0; spot < 192; spot++) {
            seen[spot] = store.seen(0, spot);
        }
        store.merge(0);
        CindermapStore again = new CindermapStore();
        again.open();
        editAll(again, 0, 9);
        for (int spot = 192; spot < 304; spot++) {
            seen[spot] = again.seen(0, spot);
        }
        Check.is("what is seen", Arrays.toString(seen), Arrays.toString(due));
    }

    private static void seenAlone(CindermapStore store, int spot, int value) {
        for (int near : new int[] {spot - 64, spot - 8, spot - 7, spot - 1, spot, spot + 1, spot + 7, spot + 8, spot + 64}) {
            if (near >= 0 && near < 304) {
                Check.is("seen(0, " + near + ") with " + spot + " edited", store.seen(0, near), near == spot ? value : 0);
            }
        }
    }

    private static void numbersOfPlaces() {
        int[][] told = {{0, 0, 0, 0}, {0, 7, 0, 7}, {0, 0, 1, 8}, {0, 7, 7, 63}, {1, 0, 0, 64}, {1, 7, 7, 127},
            {2, 0, 0, 128}, {2, 1, 0, 129}, {2, 7, 7, 191}};
        for (int[] row : told) {
            CindermapStore store = new CindermapStore();
            store.open();
            store.paint(0, row[0], row[1], row[2], 9);
            seenAlone(store, row[3], 9);
        }
    }

    private static void numbersOfRoads() {
        int[][] told = {{0, 0, 0, 192}, {6, 0, 0, 198}, {0, 1, 0, 199}, {6, 7, 0, 247}, {0, 0, 1, 248}, {7, 0, 1, 255},
            {0, 1, 1, 256}, {7, 6, 1, 303}};
        for (int[] row : told) {
            CindermapStore store = new CindermapStore();
            store.open();
            store.road(0, row[0], row[1], row[2] == 1, true);
            seenAlone(store, row[3], 1);
        }
    }

    private static void numbersOfSpots() {
        CindermapStore store = new CindermapStore();
        store.open();
        Check.is("seen(0, 0)", store.seen(0, 0), 0);
        Check.is("seen(0, 303)", store.seen(0, 303), 0);
        Check.fails("seen(0, -1)", Check.ARGUMENT, store, () -> store.seen(0, -1));
        Check.fails("seen(0, 304)", Check.ARGUMENT, store, () -> store.seen(0, 304));
    }

    private static void valuesOfRoads() {
        CindermapStore store = new CindermapStore();
        store.open();
        store.road(0, 6, 7, false, true);
        Check.is("seen(0, 247), there", store.seen(0, 247), 1);
        store.merge(0);
        Check.is("value(247, 1)", store.value(247, 1), 1);
        store.open();
        store.road(0, 6, 7, false, false);
        Check.is("seen(0, 247), taken away", store.seen(0, 247), 0);
        store.merge(0);
        Check.is("value(247, 2)", store.value(247, 2), 0);
    }
}
