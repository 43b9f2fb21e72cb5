/** Boundary cases of promises 20 to 25: tiles, the tree's leaves, borders and sizes. */
final class ShapeEdges {
    private static final String FULL = "99999999";
    private static final int[] SCALES = {1, 2, 4, 8};
    private static final int[] NO_SCALES = {Integer.MIN_VALUE, -8, -4, -2, -1, 0, 3, 5, 6, 7, 9, 10, 12, 16, 32, 64,
        256, 1 << 16, 1 << 30, Integer.MAX_VALUE};

    private ShapeEdges() {
    }

    static void run() {
        Edge.of(20, "A tile of the scale 1, 2, 4 or 8, of a layer, covers so many by so many places;",
            ShapeEdges::coveredPlaces);
        Edge.of(20, "it has the area of most of these, 0 counting as one, of several the lowest.",
            ShapeEdges::theLowestOfTheMost);
        Edge.of(21, "It is made as it is asked for, and kept;", ShapeEdges::madeAsAskedFor);
        Edge.of(21, "it is thrown out as a place changes that it covers.", ShapeEdges::thrownOut);
        Edge.of(20, "Returns the area of a tile. Returns the area, 0 for none.", ShapeEdges::tilesOfNoneAndNine);
        Edge.of(20, "Throws `IllegalArgumentException` if there is no such scale, layer or tile",
            () -> wrongTiles("tile", CindermapStore::tile));
        Edge.of(21, "Returns whether a tile is kept. Returns true if so.", ShapeEdges::allTilesKept);
        Edge.of(21, "Throws `IllegalArgumentException` if there is no such scale, layer or tile",
            () -> wrongTiles("isKept", CindermapStore::isKept));
        Edge.of(22, "Returns how many tiles were made. Returns how many.", ShapeEdges::tilesMade);
        Edge.of(23, "The tree of a layer is the whole map, split into four quarters again and again, till each is of one"
            + " area, or without;", ShapeEdges::splitTillOfOneArea);
        Edge.of(23, "its leaves are those not split.", ShapeEdges::leavesAreNotSplit);
        Edge.of(23, "Returns how many leaves the tree of a layer has. Returns how many.", ShapeEdges::oneToAllLeaves);
        Edge.of(23, "Throws `IllegalArgumentException` if a number is out of range", ShapeEdges::wrongLeaves);
        Edge.of(24, "Each border is held once: it is where two places that touch are unlike.", ShapeEdges::bordersOnce);
        Edge.of(24, "Returns how long the border of two areas is. Returns how many sides of places.",
            ShapeEdges::noneToAllSides);
        Edge.of(24, "Throws `IllegalArgumentException` if a number is out of range,", ShapeEdges::wrongBorders);
        Edge.of(24, "or both are the same", ShapeEdges::bordersOfOneArea);
        Edge.of(25, "Returns how many places an area has. Returns how many.", ShapeEdges::noneToAllPlaces);
        Edge.of(25, "Throws `IllegalArgumentException` if a number is out of range", ShapeEdges::wrongSizes);
    }

    private interface TileCall {
        Object of(CindermapStore store, int scale, int layer, int x, int y);
    }

    /** A place of area 9 for each tile of a scale, at its first corner or its last, must be all that counts. */
    private static void coveredPlaces() {
        for (int scale : SCALES) {
            for (int tile = 0; tile < 64 / scale / scale; tile++) {
                int x = tile % (8 / scale);
                int y = tile / (8 / scale);
                CindermapStore store = new CindermapStore();
                store.open();
                for (int place = 0; place < 64; place++) {
                    if (place % 8 / scale == x && place / 8 / scale == y) {
                        store.paint(0, 1, place % 8, place / 8, 9);
                    }
                }
                store.merge(0);
                for (int other = 0; other < 64 / scale / scale; other++) {
                    int at = store.tile(scale, 1, other % (8 / scale), other / (8 / scale));
                    Check.is("tile " + other + " of scale " + scale + " with " + tile + " full", at, other == tile ? 9 : 0);
                }
                Check.is("a tile of another layer", store.tile(scale, 0, x, y), 0);
            }
        }
    }

    private static void tileIs(String told, int scale, int due, String... rows) {
        Check.is("a tile of scale " + scale + " of " + told, Check.drawn(rows).tile(scale, 0, 0, 0), due);
    }

    private static void theLowestOfTheMost() {
        tileIs("four areas", 2, 1, "43", "21");
        tileIs("two of none and two of an area", 2, 0, "99", "..");
        tileIs("two of none and two areas", 2, 0, "1.", ".1");
        tileIs("one more of an area", 2, 9, "99", "9.");
        tileIs("two pairs", 2, 8, "98", "89");
        tileIs("one of none alone", 2, 1, "11", "2.");
        tileIs("eight and eight", 4, 3, "7373", "3737", "7373", "3737");
        tileIs("nine and seven", 4, 7, "7373", "3737", "7373", "3777");
        tileIs("half of none", 8, 0, FULL, FULL, FULL, FULL);
        tileIs("one more than half", 8, 9, FULL, FULL, FULL, FULL, "9");
        String[] turns = {"12345678", "91234567", "89123456", "78912345", "67891234", "56789123", "45678912", "3456789."};
        tileIs("seven of each area and one of none", 8, 1, turns);
        for (int y = 0; y < 8; y++) {
            turns[y] = turns[y].replace('1', '.');
        }
        tileIs("eight of none and seven of eight areas", 8, 0, turns);
        turns[7] = turns[7].replace('.', '9');
        tileIs("eight of the last area and seven of the others", 8, 9, turns);
    }

    private static void madeAsAskedFor() {
        CindermapStore store = Check.drawn("5");
        for (int scale : SCALES) {
            Check.is("isKept of scale " + scale + " at first", store.isKept(scale, 0, 0, 0), false);
            Check.is("isKept asked again", store.isKept(scale, 0, 0, 0), false);
        }
        for (int made = 1; made <= 4; made++) {
            int scale = SCALES[made - 1];
            store.tile(scale, 0, 0, 0);
            Check.is("isKept of scale " + scale, store.isKept(scale, 0, 0, 0), true);
            Check.is("made()", store.made(), made);
            Check.is("isKept of another layer", store.isKept(scale, 1, 0, 0), false);
            store.tile(scale, 0, 0, 0);
            Check.is("made() asked again", store.made(), made);
        }
        Check.is("isKept of the next tile right", store.isKept(4, 0, 1, 0), false);
        Check.is("isKept of the next tile below", store.isKept(4, 0, 0, 1), false);
    }

    private static void askAll(CindermapStore store, int scale, int layer) {
        for (int tile = 0; tile < 64 / scale / scale; tile++) {
            store.tile(scale, layer, tile % (8 / scale), tile / (8 / scale));
        }
    }

    /** All tiles of a scale must be kept but for those over that place, if it has changed. */
    private static void keptBut(CindermapStore store, String told, int scale, int layer, int place) {
        for (int tile = 0; tile < 64 / scale / scale; tile++) {
            int x = tile % (8 / scale);
            int y = tile / (8 / scale);
            boolean isOver = place >= 0 && place % 8 / scale == x && place / 8 / scale == y;
            Check.is("isKept(" + scale + ", " + layer + ", " + x + ", " + y + ") " + told,
                store.isKept(scale, layer, x, y), !isOver);
        }
    }

    private static void thrownOut() {
        for (int scale : SCALES) {
            for (int place : new int[] {0, 7, 27, 36, 56, 63}) {
                CindermapStore store = new CindermapStore();
                askAll(store, scale, 1);
                store.open();
                store.paint(0, 1, place % 8, place / 8, 1);
                keptBut(store, "with an edit of " + place, scale, 1, -1);
                store.merge(0);
                keptBut(store, "with " + place + " changed", scale, 1, place);
                askAll(store, scale, 1);
                store.undo();
                keptBut(store, "with " + place + " changed back", scale, 1, place);
            }
            CindermapStore store = new CindermapStore();
            askAll(store, scale, 1);
            store.open();
            for (int layer = 0; layer < 3; layer += 2) {
                store.paint(0, layer, 0, 0, 1);
                store.paint(0, layer, 7, 7, 1);
            }
            Check.is("merge(0)", store.merge(0), 4);
            keptBut(store, "with places of the other layers changed", scale, 1, -1);
            store.open();
            store.road(0, 0, 0, true, true);
            store.merge(0);
            keptBut(store, "with a road", scale, 1, -1);
            Check.bring(store, 1, 0, 0, 0);
            keptBut(store, "with nothing changed", scale, 1, -1);
        }
    }

    private static void tilesOfNoneAndNine() {
        CindermapStore store = Check.drawn("9");
        Check.is("tile(1, 0, 0, 0)", store.tile(1, 0, 0, 0), 9);
        Check.is("tile(1, 0, 1, 0)", store.tile(1, 0, 1, 0), 0);
        Check.is("tile(8, 0, 0, 0)", store.tile(8, 0, 0, 0), 0);
        Check.bring(store, 0, 0, 0, 0);
        Check.is("tile(1, 0, 0, 0), changed since", store.tile(1, 0, 0, 0), 0);
        Check.bring(store, 2, 7, 7, 9);
        Check.is("tile(1, 2, 7, 7)", store.tile(1, 2, 7, 7), 9);
    }

    private static void wrongTiles(String name, TileCall call) {
        CindermapStore store = Check.drawn("9");
        store.tile(1, 0, 0, 0);
        for (int scale : NO_SCALES) {
            Check.fails(name + " of scale " + scale, Check.ARGUMENT, store, () -> call.of(store, scale, 0, 0, 0));
        }
        for (int scale : SCALES) {
            int last = 8 / scale - 1;
            Edge.range(name + " of scale " + scale + ", layer", Check.ARGUMENT, store, 0, 2,
                layer -> call.of(store, scale, layer, 0, 0));
            Edge.range(name + " of scale " + scale + ", x", Check.ARGUMENT, store, 0, last,
                x -> call.of(store, scale, 2, x, last));
            Edge.range(name + " of scale " + scale + ", y", Check.ARGUMENT, store, 0, last,
                y -> call.of(store, scale, 2, last, y));
        }
    }

    private static void allTilesKept() {
        CindermapStore store = new CindermapStore();
        for (int layer = 0; layer < 3; layer++) {
            Check.is("isKept(8, " + layer + ", 0, 0)", store.isKept(8, layer, 0, 0), false);
            for (int scale : SCALES) {
                askAll(store, scale, layer);
            }
        }
        for (int layer = 0; layer < 2; layer++) {
            for (int scale : SCALES) {
                keptBut(store, "with all asked for", scale, layer, -1);
            }
        }
        Check.is("isKept(1, 2, 7, 7)", store.isKept(1, 2, 7, 7), true);
        Check.is("isKept(8, 2, 0, 0)", store.isKept(8, 2, 0, 0), true);
    }

    private static void tilesMade() {
        CindermapStore store = new CindermapStore();
        Check.is("made() at first", store.made(), 0);
        store.isKept(1, 0, 0, 0);
        Check.is("made() with isKept", store.made(), 0);
        Check.fails("tile(3, 0, 0, 0)", Check.ARGUMENT, store, () -> store.tile(3, 0, 0, 0));
        Check.is("made() with a refused tile", store.made(), 0);
        for (int layer = 0; layer < 3; layer++) {
            for (int scale : SCALES) {
                askAll(store, scale, layer);
            }
        }
        Check.is("made() with all", store.made(), 255);
        askAll(store, 2, 2);
        Check.is("made() with some asked for again", store.made(), 255);
        Check.bring(store, 2, 7, 7, 1);
        Check.is("made() with four thrown out", store.made(), 255);
        askAll(store, 1, 2);
        Check.is("made() with one made again", store.made(), 256);
    }

    private static void leavesAre(String told, int due, String... rows) {
        Check.is("leaves(0) of " + told, Check.drawn(rows).leaves(0), due);
    }

    private static void splitTillOfOneArea() {
        leavesAre("four quarters", 4, "11112222", "11112222", "11112222", "11112222", "33334444", "33334444", "33334444",
            "33334444");
        leavesAre("two halves, of one area and without", 4, FULL, FULL, FULL, FULL);
        leavesAre("a quarter of quarters", 7, "1122", "1122", "3344", "3344");
        leavesAre("a quarter of quarters without", 7, "11", "11");
        leavesAre("a quarter of a quarter's quarters", 10, "12", "34");
        leavesAre("areas by rows", 64, "11111111", "22222222", "11111111", "22222222", "11111111", "22222222", "11111111",
            "22222222");
        leavesAre("a row not along a quarter", 4 + 3 * 2 + 3 * 4, FULL);
    }

    private static void leavesAreNotSplit() {
        leavesAre("like quarters that make one area", 1, FULL, FULL, FULL, FULL, FULL, FULL, FULL, FULL);
        leavesAre("like quarters, a place of the last unlike", 10, FULL, FULL, FULL, FULL, FULL, FULL, FULL, "99999998");
        leavesAre("like quarters, a place of the first unlike", 10, "8".concat(FULL.substring(1)), FULL, FULL, FULL, FULL,
            FULL, FULL, FULL);
    }

    private static void oneToAllLeaves() {
        Check.is("leaves(0) of a new object", new CindermapStore().leaves(0), 1);
        String[] chess = new String[8];
        for (int y = 0; y < 8; y++) {
            chess[y] = y % 2 == 0 ? "1.1.1.1." : ".1.1.1.1";
        }
        leavesAre("a chessboard", 64, chess);
        CindermapStore store = Check.drawn("", "", "", "", "", "", "", ".......1");
        Check.bring(store, 2, 0, 0, 1);
        Check.is("leaves(1), between layers that are split", store.leaves(1), 1);
        Check.is("leaves(2)", store.leaves(2), 10);
        store.undo();
        store.undo();
        Check.is("leaves(0) undone", store.leaves(0), 1);
    }

    private static void wrongLeaves() {
        CindermapStore store = Check.drawn("1");
        Edge.range("leaves", Check.ARGUMENT, store, 0, 2, layer -> store.leaves(layer));
    }

    private static void bordersOnce() {
        CindermapStore store = Check.drawn("12", ".", "3", "3");
        Check.is("border(0, 1, 2)", store.border(0, 1, 2), 1);
        Check.is("border(0, 2, 1)", store.border(0, 2, 1), 1);
        Check.is("border(0, 1, 0)", store.border(0, 1, 0), 1);
        Check.is("border(0, 0, 3)", store.border(0, 0, 3), 4);
        Check.is("border(0, 1, 3), apart", store.border(0, 1, 3), 0);
        CindermapStore corner = Check.drawn("1", ".2", "", "", "", "", ".......2", "1");
        Check.is("border(0, 1, 2) by corners and over the row's end", corner.border(0, 1, 2), 0);
        CindermapStore edges = Check.drawn("1......2", "", "", "", "", "", "", "2......1");
        Check.is("border(0, 1, 2) over the map's edges", edges.border(0, 1, 2), 0);
        Check.is("border(0, 1, 0) at two corners", edges.border(0, 1, 0), 4);
    }

    private static void noneToAllSides() {
        CindermapStore store = new CindermapStore();
        Check.is("border(0, 0, 1) of a new object", store.border(0, 0, 1), 0);
        store.open();
        for (int place = 0; place < 64; place++) {
            if ((place % 8 + place / 8) % 2 == 0) {
                store.paint(0, 2, place % 8, place / 8, 9);
            }
        }
        store.merge(0);
        Check.is("border(2, 0, 9) of a chessboard", store.border(2, 0, 9), 112);
        Check.is("border(2, 9, 0) of a chessboard", store.border(2, 9, 0), 112);
        Check.is("border(1, 9, 0) of another layer", store.border(1, 9, 0), 0);
        Check.is("border(0, 1, 0) of the last place", Check.drawn("", "", "", "", "", "", "", ".......1").border(0, 1, 0), 2);
        Check.is("border(0, 1, 0) of a place inside", Check.drawn("", ".1").border(0, 1, 0), 4);
    }

    private static void wrongBorders() {
        CindermapStore store = Check.drawn("1");
        Edge.range("border, layer", Check.ARGUMENT, store, 0, 2, layer -> store.border(layer, 0, 9));
        Edge.range("border, one, but for the other", Check.ARGUMENT, store, 1, 9, one -> store.border(0, one, 0));
        Edge.range("border, one, but for the other", Check.ARGUMENT, store, 0, 8, one -> store.border(0, one, 9));
        Edge.range("border, other, but for the one", Check.ARGUMENT, store, 1, 9, other -> store.border(0, 0, other));
        Edge.range("border, other, but for the one", Check.ARGUMENT, store, 0, 8, other -> store.border(0, 9, other));
        Check.fails("border(0, -1, 1)", Check.ARGUMENT, store, () -> store.border(0, -1, 1));
        Check.fails("border(0, 10, 1)", Check.ARGUMENT, store, () -> store.border(0, 10, 1));
        Check.fails("border(0, 1, -1)", Check.ARGUMENT, store, () -> store.border(0, 1, -1));
        Check.fails("border(0, 1, 10)", Check.ARGUMENT, store, () -> store.border(0, 1, 10));
    }

    private static void bordersOfOneArea() {
        CindermapStore store = Check.drawn("11");
        for (int number = 0; number <= 9; number++) {
            int area = number;
            Check.fails("border(0, " + area + ", " + area + ")", Check.ARGUMENT, store, () -> store.border(0, area, area));
        }
        Check.is("border(0, 0, 1)", store.border(0, 0, 1), 3);
    }

    private static void noneToAllPlaces() {
        CindermapStore store = Check.drawn(FULL, FULL, FULL, FULL, FULL, FULL, FULL, "99999991");
        Check.is("size(0, 9)", store.size(0, 9), 63);
        Check.is("size(0, 1)", store.size(0, 1), 1);
        Check.is("size(0, 8)", store.size(0, 8), 0);
        Check.bring(store, 0, 7, 7, 9);
        Check.is("size(0, 9) of all", store.size(0, 9), 64);
        Check.is("size(0, 1)", store.size(0, 1), 0);
        Check.is("size(2, 9)", store.size(2, 9), 0);
    }

    private static void wrongSizes() {
        CindermapStore store = Check.drawn("1");
        Edge.range("size, layer", Check.ARGUMENT, store, 0, 2, layer -> store.size(layer, 9));
        Edge.range("size, area", Check.ARGUMENT, store, 1, 9, area -> store.size(2, area));
    }
}
