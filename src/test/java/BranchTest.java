/** Promises 3 to 11: branches, their edits and their conflicts. */
public final class BranchTest {
    public static void main(String[] args) {
        theLowestFreeNumberIsTaken();
        dropTellsTheEdits();
        paintEditsAPlace();
        roadEditsARoad();
        aBranchSeesTheMapAsItWasOpened();
        wrongSpotsAreRefused();
        aConflictNeedsAThirdValue();
        conflictsAreOrderedBySpots();
        settlingForTheOwnEdit();
        settlingAgainstTheOwnEdit();
        settlingIsForgottenWithTheEdit();
        onlyTheLastSettlingCounts();
        wrongSettlingsAreRefused();
        Check.end();
    }

    private static void theLowestFreeNumberIsTaken() {
        CindermapStore x = new CindermapStore();
        for (int number = 0; number < 4; number++) {
            Check.is("open()", x.open(), number);
        }
        Check.fails("a fifth open()", Check.STATE, x, x::open);
        x.drop(2);
        x.merge(1);
        Check.is("open() with 1 and 2 free", x.open(), 1);
        Check.is("open() with 2 free", x.open(), 2);
        Check.fails("open() with none free", Check.STATE, x, x::open);
    }

    private static void dropTellsTheEdits() {
        CindermapStore x = new CindermapStore();
        x.open();
        x.open();
        x.paint(1, 0, 0, 0, 4);
        x.paint(1, 2, 7, 7, 4);
        x.road(1, 0, 0, true, true);
        Check.is("drop(1)", x.drop(1), 3);
        Check.fails("drop(1) again", Check.INDEX, x, () -> x.drop(1));
        Check.fails("drop(2)", Check.INDEX, x, () -> x.drop(2));
        Check.fails("drop(-1)", Check.INDEX, x, () -> x.drop(-1));
        Check.fails("drop(4)", Check.INDEX, x, () -> x.drop(4));
        Check.is("open()", x.open(), 1);
        Check.is("edits(1), opened again", x.edits(1), 0);
        Check.is("seen(1, 0), opened again", x.seen(1, 0), 0);
        Check.is("drop(1)", x.drop(1), 0);
        Check.is("drop(0)", x.drop(0), 0);
        Check.is("version()", x.version(), 0);
    }

    private static void paintEditsAPlace() {
        CindermapStore x = Check.drawn("5");
        x.open();
        Check.is("paint(0, 2, 7, 7, 9)", x.paint(0, 2, 7, 7, 9), 1);
        Check.is("seen(0, 191)", x.seen(0, 191), 9);
        Check.is("paint(0, 1, 3, 2, 1)", x.paint(0, 1, 3, 2, 1), 2);
        Check.is("seen(0, 83)", x.seen(0, 83), 1);
        Check.is("the same place again", x.paint(0, 1, 3, 2, 8), 2);
        Check.is("seen(0, 83)", x.seen(0, 83), 8);
        Check.is("a place without an area", x.paint(0, 0, 0, 0, 0), 3);
        Check.is("seen(0, 0)", x.seen(0, 0), 0);
        Check.is("paint to what was seen", x.paint(0, 0, 0, 0, 5), 2);
        Check.is("paint to what is seen", x.paint(0, 0, 0, 0, 5), 2);
        Check.is("edits(0)", x.edits(0), 2);
        Check.is("size(1, 8) before the merge", x.size(1, 8), 0);
        int[][] wrong = {{-1, 0, 0, 1}, {3, 0, 0, 1}, {0, -1, 0, 1}, {0, 8, 0, 1}, {0, 0, -1, 1}, {0, 0, 8, 1},
            {0, 0, 0, -1}, {0, 0, 0, 10}, {Integer.MAX_VALUE, Integer.MIN_VALUE, 0, 1}};
        for (int[] row : wrong) {
            Check.fails("paint(0, " + java.util.Arrays.toString(row) + ")", Check.ARGUMENT, x,
                () -> x.paint(0, row[0], row[1], row[2], row[3]));
            Check.fails("paint(1, " + java.util.Arrays.toString(row) + ")", Check.INDEX, x,
                () -> x.paint(1, row[0], row[1], row[2], row[3]));
        }
        Check.fails("paint(4, 0, 0, 0, 1)", Check.INDEX, x, () -> x.paint(4, 0, 0, 0, 1));
        Check.fails("paint(-1, 0, 0, 0, 1)", Check.INDEX, x, () -> x.paint(-1, 0, 0, 0, 1));
    }

    private static void roadEditsARoad() {
        CindermapStore x = new CindermapStore();
        x.open();
        Check.is("road(0, 0, 0, false, true)", x.road(0, 0, 0, false, true), 1);
        Check.is("road(0, 6, 7, false, true)", x.road(0, 6, 7, false, true), 2);
        Check.is("road(0, 0, 0, true, true)", x.road(0, 0, 0, true, true), 3);
        Check.is("road(0, 7, 6, true, true)", x.road(0, 7, 6, true, true), 4);
        Check.is("road(0, 2, 1, false, true)", x.road(0, 2, 1, false, true), 5);
        Check.is("road(0, 2, 1, true, true)", x.road(0, 2, 1, true, true), 6);
        int seen = 0;
        for (int spot : new int[] {192, 247, 248, 303, 201, 258}) {
            seen += x.seen(0, spot);
        }
        Check.is("the roads that are seen", seen, 6);
        Check.is("a road that is taken away", x.road(0, 2, 1, true, false), 5);
        Check.is("a road that was never there", x.road(0, 3, 3, true, false), 5);
        int[][] wrong = {{7, 0, 0}, {-1, 0, 0}, {0, -1, 0}, {0, 8, 0}, {0, 7, 1}, {8, 0, 1}, {-1, 0, 1}, {0, -1, 1},
            {8, 8, 0}};
        for (int[] row : wrong) {
            Check.fails("road(0, " + java.util.Arrays.toString(row) + ")", Check.ARGUMENT, x,
                () -> x.road(0, row[0], row[1], row[2] == 1, false));
            Check.fails("road(3, " + java.util.Arrays.toString(row) + ")", Check.INDEX, x,
                () -> x.road(3, row[0], row[1], row[2] == 1, true));
        }
        Check.fails("road(-1, 0, 0, true, true)", Check.INDEX, x, () -> x.road(-1, 0, 0, true, true));
    }

    private static void aBranchSeesTheMapAsItWasOpened() {
        CindermapStore x = Check.drawn("12");
        x.open();
        x.paint(0, 0, 1, 0, 7);
        Check.bring(x, 0, 0, 0, 5);
        Check.bring(x, 0, 1, 0, 6);
        Check.is("seen(0, 0)", x.seen(0, 0), 1);
        Check.is("seen(0, 1)", x.seen(0, 1), 7);
        Check.is("paint to what was seen at first", x.paint(0, 0, 1, 0, 2), 0);
        Check.is("paint to what the map has by now", x.paint(0, 0, 0, 0, 5), 1);
        x.open();
        Check.is("seen(1, 0)", x.seen(1, 0), 5);
        Check.is("edits(1)", x.edits(1), 0);
    }

    private static void wrongSpotsAreRefused() {
        CindermapStore x = new CindermapStore();
        x.open();
        Check.is("seen(0, 303)", x.seen(0, 303), 0);
        Check.fails("seen(0, 304)", Check.ARGUMENT, x, () -> x.seen(0, 304));
        Check.fails("seen(0, -1)", Check.ARGUMENT, x, () -> x.seen(0, -1));
        Check.fails("seen(1, 304)", Check.INDEX, x, () -> x.seen(1, 304));
        Check.fails("seen(-1, 0)", Check.INDEX, x, () -> x.seen(-1, 0));
        Check.fails("edits(1)", Check.INDEX, x, () -> x.edits(1));
        Check.fails("edits(4)", Check.INDEX, x, () -> x.edits(4));
        Check.fails("conflicts(1)", Check.INDEX, x, () -> x.conflicts(1));
        Check.fails("conflicts(-1)", Check.INDEX, x, () -> x.conflicts(-1));
    }

    private static void aConflictNeedsAThirdValue() {
        CindermapStore x = Check.drawn("1");
        x.open();
        x.paint(0, 0, 0, 0, 2);
        Check.is("with the map as it was", x.conflicts(0), 0);
        Check.bring(x, 0, 0, 0, 2);
        Check.is("with the map as the edit tells", x.conflicts(0), 0);
        Check.bring(x, 0, 0, 0, 3);
        Check.is("with a third value", x.conflicts(0), 1);
        x.paint(0, 0, 0, 0, 3);
        Check.is("with the edit told as the map is", x.conflicts(0), 0);
        x.paint(0, 0, 0, 0, 1);
        Check.is("without an edit", x.conflicts(0), 0);
        x.paint(0, 0, 0, 0, 4);
        Check.is("with another edit", x.conflicts(0), 1);
        x.undo();
        x.undo();
        Check.is("with the map back", x.conflicts(0), 0);
        Check.bring(x, 0, 1, 0, 3);
        Check.is("with a change elsewhere", x.conflicts(0), 0);
        Check.bring(x, 0, 0, 0, 0);
        Check.is("with the place empty by now", x.conflicts(0), 1);
        Check.is("settle(0, 0, true)", x.settle(0, 0, true), 0);
        x.paint(0, 0, 0, 0, 1);
        x.paint(0, 0, 0, 0, 4);
        Check.is("with the place empty and the settling forgotten", x.conflicts(0), 1);
    }

    private static void conflictsAreOrderedBySpots() {
        CindermapStore x = new CindermapStore();
        x.open();
        x.open();
        x.paint(0, 2, 7, 7, 1);
        x.paint(0, 0, 3, 0, 1);
        x.paint(0, 1, 3, 0, 1);
        x.road(0, 0, 0, true, true);
        x.paint(1, 2, 7, 7, 2);
        x.paint(1, 1, 3, 0, 2);
        x.paint(1, 0, 3, 0, 2);
        x.road(1, 0, 0, true, true);
        x.merge(1);
        Check.is("conflicts(0)", x.conflicts(0), 3);
        Check.is("conflict(0, 0)", x.conflict(0, 0), 3);
        Check.is("conflict(0, 1)", x.conflict(0, 1), 67);
        Check.is("conflict(0, 2)", x.conflict(0, 2), 191);
        Check.fails("conflict(0, 3)", Check.NO_ELEMENT, x, () -> x.conflict(0, 3));
        Check.fails("conflict(0, -1)", Check.NO_ELEMENT, x, () -> x.conflict(0, -1));
        Check.fails("conflict(0, max)", Check.NO_ELEMENT, x, () -> x.conflict(0, Integer.MAX_VALUE));
        Check.fails("conflict(1, -1)", Check.INDEX, x, () -> x.conflict(1, -1));
        Check.fails("conflict(-1, 0)", Check.INDEX, x, () -> x.conflict(-1, 0));
    }

    private static void settlingForTheOwnEdit() {
        CindermapStore x = Check.inConflict();
        x.paint(0, 0, 1, 0, 7);
        Check.bring(x, 0, 1, 0, 5);
        Check.is("settle(0, 1, true)", x.settle(0, 1, true), 1);
        Check.is("conflict(0, 0)", x.conflict(0, 0), 0);
        Check.is("settle(0, 0, true)", x.settle(0, 0, true), 0);
        Check.is("edits(0)", x.edits(0), 2);
        Check.is("seen(0, 0)", x.seen(0, 0), 7);
        Check.fails("settle(0, 0, true) again", Check.UNSUPPORTED, x, () -> x.settle(0, 0, true));
        x.paint(0, 0, 0, 0, 8);
        Check.is("with another edit there", x.conflicts(0), 0);
        Check.bring(x, 0, 0, 0, 6);
        Check.is("with another value of the map", x.conflicts(0), 1);
        x.undo();
        Check.is("with the value back", x.conflicts(0), 0);
        Check.is("merge(0)", x.merge(0), 2);
        Check.is("value(0, 5)", x.value(0, x.version()), 8);
    }

    private static void settlingAgainstTheOwnEdit() {
        CindermapStore x = Check.inConflict();
        Check.is("settle(0, 0, false)", x.settle(0, 0, false), 0);
        Check.is("edits(0)", x.edits(0), 0);
        Check.is("seen(0, 0)", x.seen(0, 0), 0);
        x.paint(0, 0, 0, 0, 7);
        Check.is("conflicts(0) with the edit again", x.conflicts(0), 1);
    }

    private static void settlingIsForgottenWithTheEdit() {
        CindermapStore x = Check.inConflict();
        x.settle(0, 0, true);
        x.paint(0, 0, 0, 0, 0);
        x.paint(0, 0, 0, 0, 7);
        Check.is("after the edit was none", x.conflicts(0), 1);
        x.settle(0, 0, true);
        x.device();
        x.note(0, 10, 0, 0, 0, 0);
        x.note(0, 11, 0, 0, 0, 7);
        x.home(0, 0, 0, 0);
        Check.is("after notes took it away and brought it", x.conflicts(0), 1);
        x.settle(0, 0, true);
        x.drop(0);
        x.undo();
        x.open();
        x.paint(0, 0, 0, 0, 7);
        Check.bring(x, 0, 0, 0, 5);
        Check.is("in a new branch of the number", x.conflicts(0), 1);
    }

    private static void onlyTheLastSettlingCounts() {
        CindermapStore x = Check.inConflict();
        x.settle(0, 0, true);
        Check.bring(x, 0, 0, 0, 6);
        Check.is("settle(0, 0, true) over 6", x.settle(0, 0, true), 0);
        x.undo();
        Check.is("conflicts(0) over 5 again", x.conflicts(0), 1);
        x.settle(0, 0, true);
        Check.bring(x, 0, 0, 0, 6);
        Check.is("settle(0, 0, false) over 6", x.settle(0, 0, false), 0);
    }

    private static void wrongSettlingsAreRefused() {
        CindermapStore x = Check.inConflict();
        Check.fails("settle(0, 1, true)", Check.UNSUPPORTED, x, () -> x.settle(0, 1, true));
        Check.fails("settle(0, 1, false)", Check.UNSUPPORTED, x, () -> x.settle(0, 1, false));
        Check.fails("settle(0, 304, true)", Check.ARGUMENT, x, () -> x.settle(0, 304, true));
        Check.fails("settle(0, -1, true)", Check.ARGUMENT, x, () -> x.settle(0, -1, true));
        Check.fails("settle(1, 304, true)", Check.INDEX, x, () -> x.settle(1, 304, true));
        Check.fails("settle(4, 0, true)", Check.INDEX, x, () -> x.settle(4, 0, true));
        Check.fails("settle(-1, 0, true)", Check.INDEX, x, () -> x.settle(-1, 0, true));
    }
}
