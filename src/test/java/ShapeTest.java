/** Promises 20 to 25: tiles that are kept, the tree's leaves, borders and sizes. */
public final class ShapeTest {
    public static void main(String[] args) {
        aTileHasTheCommonestArea();
        tilesAreMadeOnceAndKept();
        changesThrowOutTheTilesAboveThem();
        wrongTilesAreRefused();
        leavesOfTheTree();
        bordersOfAreas();
        sizesOfAreas();
        Check.end();
    }

    private static void aTileHasTheCommonestArea() {
        CindermapStore x = Check.drawn("12345599", "12340099", "66771100", "66778800", "4", "4");
        Check.is("tile(1, 0, 3, 1)", x.tile(1, 0, 3, 1), 4);
        Check.is("tile(2, 0, 0, 0), two of each", x.tile(2, 0, 0, 0), 1);
        Check.is("tile(2, 0, 1, 0)", x.tile(2, 0, 1, 0), 3);
        Check.is("tile(2, 0, 2, 0), of 5 and none", x.tile(2, 0, 2, 0), 0);
        Check.is("tile(2, 0, 3, 0)", x.tile(2, 0, 3, 0), 9);
        Check.is("tile(4, 0, 0, 0), of 6 and 7", x.tile(4, 0, 0, 0), 6);
        Check.is("tile(4, 0, 1, 0)", x.tile(4, 0, 1, 0), 0);
        Check.is("tile(4, 0, 0, 1)", x.tile(4, 0, 0, 1), 0);
        Check.is("tile(8, 0, 0, 0)", x.tile(8, 0, 0, 0), 0);
        Check.is("tile(8, 1, 0, 0)", x.tile(8, 1, 0, 0), 0);
        Check.is("made()", x.made(), 10);
        CindermapStore y = Check.drawn("", "", "", "", "....3333", "....3333", "....3322", "....2222");
        Check.is("tile(4, 0, 1, 1)", y.tile(4, 0, 1, 1), 3);
        Check.is("tile(2, 0, 3, 3)", y.tile(2, 0, 3, 3), 2);
    }

    private static void tilesAreMadeOnceAndKept() {
        CindermapStore x = Check.drawn("1");
        Check.is("isKept(4, 0, 0, 0) at first", x.isKept(4, 0, 0, 0), false);
        Check.is("made()", x.made(), 0);
        x.tile(4, 0, 0, 0);
        Check.is("isKept(4, 0, 0, 0)", x.isKept(4, 0, 0, 0), true);
        x.tile(4, 0, 0, 0);
        Check.is("made() after asking twice", x.made(), 1);
        int[][] others = {{4, 0, 1, 0}, {4, 0, 0, 1}, {4, 1, 0, 0}, {8, 0, 0, 0}, {2, 0, 0, 0}, {1, 0, 0, 0}};
        for (int[] other : others) {
            Check.is("isKept" + java.util.Arrays.toString(other), isKept(x, other), false);
        }
        for (int[] other : others) {
            x.tile(other[0], other[1], other[2], other[3]);
            Check.is("isKept" + java.util.Arrays.toString(other), isKept(x, other), true);
        }
        Check.is("made()", x.made(), 7);
    }

    private static boolean isKept(CindermapStore x, int[] tile) {
        return x.isKept(tile[0], tile[1], tile[2], tile[3]);
    }

    private static void changesThrowOutTheTilesAboveThem() {
        CindermapStore x = new CindermapStore();
        int[][] over = {{1, 1, 5, 6}, {2, 1, 2, 3}, {4, 1, 1, 1}, {8, 1, 0, 0}};
        int[][] away = {{1, 1, 6, 6}, {2, 1, 3, 3}, {4, 1, 0, 1}, {8, 0, 0, 0}, {1, 2, 5, 6}};
        askAll(x, over);
        askAll(x, away);
        x.open();
        x.paint(0, 1, 5, 6, 8);
        keptAll(x, "before the merge", over, true);
        x.merge(0);
        keptAll(x, "after the merge", over, false);
        keptAll(x, "after the merge", away, true);
        Check.is("made()", x.made(), 9);
        Check.is("tile(1, 1, 5, 6)", x.tile(1, 1, 5, 6), 8);
        askAll(x, over);
        Check.is("made()", x.made(), 13);
        x.open();
        x.road(0, 5, 6, true, true);
        x.merge(0);
        keptAll(x, "after a road", over, true);
        x.undo();
        keptAll(x, "after a road undone", over, true);
        x.undo();
        keptAll(x, "after the place undone", over, false);
        keptAll(x, "after the place undone", away, true);
        Check.is("isSound()", x.isSound(), true);
    }

    private static void askAll(CindermapStore x, int[][] tiles) {
        for (int[] tile : tiles) {
            x.tile(tile[0], tile[1], tile[2], tile[3]);
        }
    }

    private static void keptAll(CindermapStore x, String when, int[][] tiles, boolean want) {
        for (int[] tile : tiles) {
            Check.is("isKept" + java.util.Arrays.toString(tile) + " " + when, isKept(x, tile), want);
        }
    }

    private static void wrongTilesAreRefused() {
        CindermapStore x = new CindermapStore();
        int[][] wrong = {{0, 0, 0, 0}, {3, 0, 0, 0}, {16, 0, 0, 0}, {-1, 0, 0, 0}, {-8, 0, 0, 0},
            {Integer.MIN_VALUE, 0, 0, 0}, {1, 3, 0, 0}, {1, -1, 0, 0}, {1, 0, 8, 0}, {1, 0, 0, 8}, {1, 0, -1, 0},
            {1, 0, 0, -1}, {2, 0, 4, 0}, {2, 0, 0, 4}, {4, 0, 2, 0}, {4, 0, 0, 2}, {8, 0, 1, 0}, {8, 0, 0, 1}};
        for (int[] tile : wrong) {
            String told = java.util.Arrays.toString(tile);
            Check.fails("tile" + told, Check.ARGUMENT, x, () -> x.tile(tile[0], tile[1], tile[2], tile[3]));
            Check.fails("isKept" + told, Check.ARGUMENT, x, () -> isKept(x, tile));
        }
        askAll(x, new int[][] {{1, 2, 7, 7}, {2, 2, 3, 3}, {4, 2, 1, 1}, {8, 2, 0, 0}});
        Check.is("made()", x.made(), 4);
    }

    private static void leavesOfTheTree() {
        Check.is("leaves(1) of an empty layer", new CindermapStore().leaves(1), 1);
        CindermapStore x = Check.drawn("", "", "", "", "", "", "", ".......4");
        Check.is("leaves(0) of one place", x.leaves(0), 10);
        Check.is("leaves(1)", x.leaves(1), 1);
        String[] quarters = {"11112222", "11112222", "11112222", "11112222", "33330000", "33330000", "33330000",
            "33330000"};
        Check.is("leaves(0) of quarters", Check.drawn(quarters).leaves(0), 4);
        CindermapStore y = Check.drawn("1212", "2121", "1122", "1122");
        Check.is("leaves(0) of a half mixed quarter", y.leaves(0), 3 + 2 + 8);
        String[] full = {"99999999", "99999999", "99999999", "99999999", "99999999", "99999999", "99999999",
            "99999999"};
        Check.is("leaves(0) of one area", Check.drawn(full).leaves(0), 1);
        String[] checked = {"12121212", "21212121", "12121212", "21212121", "12121212", "21212121", "12121212",
            "21212121"};
        Check.is("leaves(0) of a chessboard", Check.drawn(checked).leaves(0), 64);
        Check.fails("leaves(3)", Check.ARGUMENT, x, () -> x.leaves(3));
        Check.fails("leaves(-1)", Check.ARGUMENT, x, () -> x.leaves(-1));
    }

    private static void bordersOfAreas() {
        CindermapStore x = Check.drawn("12.....3", "112....3", "......33", "......44");
        Check.is("border(0, 1, 2)", x.border(0, 1, 2), 3);
        Check.is("border(0, 2, 1)", x.border(0, 2, 1), 3);
        Check.is("border(0, 1, 0)", x.border(0, 1, 0), 2);
        Check.is("border(0, 0, 2)", x.border(0, 0, 2), 4);
        Check.is("border(0, 3, 4)", x.border(0, 3, 4), 2);
        Check.is("border(0, 3, 0)", x.border(0, 3, 0), 4);
        Check.is("border(0, 1, 3), over the rows' ends", x.border(0, 1, 3), 0);
        Check.is("border(1, 1, 2)", x.border(1, 1, 2), 0);
        Check.is("border(0, 9, 0)", x.border(0, 9, 0), 0);
        Check.fails("border(0, 1, 1)", Check.ARGUMENT, x, () -> x.border(0, 1, 1));
        Check.fails("border(0, 0, 0)", Check.ARGUMENT, x, () -> x.border(0, 0, 0));
        Check.fails("border(3, 0, 1)", Check.ARGUMENT, x, () -> x.border(3, 0, 1));
        Check.fails("border(-1, 0, 1)", Check.ARGUMENT, x, () -> x.border(-1, 0, 1));
        Check.fails("border(0, -1, 1)", Check.ARGUMENT, x, () -> x.border(0, -1, 1));
        Check.fails("border(0, 10, 1)", Check.ARGUMENT, x, () -> x.border(0, 10, 1));
        Check.fails("border(0, 1, -1)", Check.ARGUMENT, x, () -> x.border(0, 1, -1));
        Check.fails("border(0, 1, 10)", Check.ARGUMENT, x, () -> x.border(0, 1, 10));
    }

    private static void sizesOfAreas() {
        CindermapStore x = Check.drawn("12.....3", "112....3", "......33");
        Check.is("size(0, 1)", x.size(0, 1), 3);
        Check.is("size(0, 2)", x.size(0, 2), 2);
        Check.is("size(0, 3)", x.size(0, 3), 4);
        Check.is("size(0, 9)", x.size(0, 9), 0);
        Check.is("size(2, 1)", x.size(2, 1), 0);
        Check.fails("size(0, 0)", Check.ARGUMENT, x, () -> x.size(0, 0));
        Check.fails("size(0, 10)", Check.ARGUMENT, x, () -> x.size(0, 10));
        Check.fails("size(3, 1)", Check.ARGUMENT, x, () -> x.size(3, 1));
        Check.fails("size(-1, 1)", Check.ARGUMENT, x, () -> x.size(-1, 1));
    }
}
