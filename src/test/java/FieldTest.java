/** Promises 29 to 32: devices, their notes, and how they are brought home. */
public final class FieldTest {
    public static void main(String[] args) {
        devicesAreNumbered();
        notesAreCounted();
        wrongNotesAreRefused();
        notesComeByTheirRightTimes();
        likeTimesComeAsNoted();
        laterNotesOfOtherDevicesStand();
        notesAreEdits();
        timesGoWithTheBranch();
        clocksAreAheadOrBehind();
        wrongHomecomingsAreRefused();
        Check.end();
    }

    private static void devicesAreNumbered() {
        CindermapStore x = new CindermapStore();
        for (int number = 0; number < 3; number++) {
            Check.is("device()", x.device(), number);
            Check.is("ahead(" + number + ")", x.ahead(number), 0);
        }
        Check.fails("a fourth device()", Check.STATE, x, x::device);
        Check.fails("ahead(3)", Check.INDEX, x, () -> x.ahead(3));
        Check.fails("ahead(-1)", Check.INDEX, x, () -> x.ahead(-1));
    }

    private static void notesAreCounted() {
        CindermapStore x = new CindermapStore();
        x.device();
        x.device();
        x.open();
        for (int count = 1; count <= 20; count++) {
            Check.is("note " + count, x.note(0, 9999 - 400 * count, 2, 7, 7, count % 10), count);
        }
        Check.fails("note 21", Check.STATE, x, () -> x.note(0, 0, 0, 0, 0, 0));
        Check.fails("note 21 with a wrong area", Check.ARGUMENT, x, () -> x.note(0, 0, 0, 0, 0, 10));
        Check.is("a note of another device", x.note(1, 0, 0, 0, 0, 0), 1);
        Check.is("home(0, 0, 0, 0)", x.home(0, 0, 0, 0), 20);
        Check.is("seen(0, 191)", x.seen(0, 191), 1);
        Check.is("home(0, 0, 0, 0) without notes", x.home(0, 0, 0, 0), 0);
        Check.is("a note after coming home", x.note(0, 9999, 0, 0, 0, 9), 1);
    }

    private static void wrongNotesAreRefused() {
        CindermapStore x = new CindermapStore();
        x.device();
        int[][] wrong = {{-1, 0, 0, 0, 0}, {10000, 0, 0, 0, 0}, {0, -1, 0, 0, 0}, {0, 3, 0, 0, 0}, {0, 0, -1, 0, 0},
            {0, 0, 8, 0, 0}, {0, 0, 0, -1, 0}, {0, 0, 0, 8, 0}, {0, 0, 0, 0, -1}, {0, 0, 0, 0, 10}};
        for (int[] row : wrong) {
            String told = java.util.Arrays.toString(row);
            Check.fails("note(0, " + told + ")", Check.ARGUMENT, x,
                () -> x.note(0, row[0], row[1], row[2], row[3], row[4]));
            Check.fails("note(1, " + told + ")", Check.INDEX, x,
                () -> x.note(1, row[0], row[1], row[2], row[3], row[4]));
        }
        Check.fails("note(-1, 0, 0, 0, 0, 0)", Check.INDEX, x, () -> x.note(-1, 0, 0, 0, 0, 0));
        Check.fails("note(3, 0, 0, 0, 0, 0)", Check.INDEX, x, () -> x.note(3, 0, 0, 0, 0, 0));
        Check.is("note(0, 9999, 2, 7, 7, 9)", x.note(0, 9999, 2, 7, 7, 9), 1);
        Check.is("note(0, 0, 0, 0, 0, 0)", x.note(0, 0, 0, 0, 0, 0), 2);
    }

    private static void notesComeByTheirRightTimes() {
        CindermapStore x = new CindermapStore();
        x.device();
        x.open();
        x.note(0, 50, 0, 1, 0, 1);
        x.note(0, 70, 0, 1, 0, 2);
        x.note(0, 60, 0, 1, 0, 3);
        x.note(0, 10, 1, 1, 0, 4);
        Check.is("home(0, 0, 5, 5)", x.home(0, 0, 5, 5), 4);
        Check.is("seen(0, 1)", x.seen(0, 1), 2);
        Check.is("seen(0, 65)", x.seen(0, 65), 4);
        Check.is("edits(0)", x.edits(0), 2);
        Check.is("a note of an earlier time", homeAt(x, 0, 69, 9), 0);
        Check.is("seen(0, 1)", x.seen(0, 1), 2);
    }

    /** Notes an area at the spot 1 by that right time, and brings the device to branch 0. */
    private static int homeAt(CindermapStore x, int device, int time, int area) {
        x.note(device, time, 0, 1, 0, area);
        return x.home(device, 0, 0, 0);
    }

    private static void likeTimesComeAsNoted() {
        CindermapStore x = new CindermapStore();
        x.device();
        x.device();
        x.open();
        x.note(0, 30, 0, 1, 0, 1);
        x.note(0, 20, 0, 1, 0, 2);
        x.note(0, 30, 0, 1, 0, 3);
        x.note(0, 20, 0, 1, 0, 4);
        x.home(0, 0, 0, 0);
        Check.is("the last one of a like time", x.seen(0, 1), 3);
        Check.is("a note of the like time", homeAt(x, 1, 30, 7), 1);
        Check.is("seen(0, 1)", x.seen(0, 1), 7);
        Check.is("a note of an earlier time", homeAt(x, 1, 29, 8), 0);
        Check.is("seen(0, 1)", x.seen(0, 1), 7);
    }

    private static void laterNotesOfOtherDevicesStand() {
        CindermapStore x = new CindermapStore();
        x.device();
        x.device();
        x.open();
        x.note(0, 500, 0, 1, 0, 1);
        x.home(0, 0, 1000, 800);
        x.note(1, 290, 0, 1, 0, 2);
        x.note(1, 310, 0, 1, 0, 3);
        x.note(1, 0, 0, 2, 0, 4);
        x.note(1, 0, 1, 1, 0, 4);
        Check.is("home(1, 0, 0, 0)", x.home(1, 0, 0, 0), 4 - 1);
        Check.is("seen(0, 1)", x.seen(0, 1), 3);
        x.note(1, 311, 0, 1, 0, 5);
        Check.is("home(1, 0, 9, 7), by a right time of 309", x.home(1, 0, 9, 7), 0);
        Check.is("seen(0, 1)", x.seen(0, 1), 3);
        Check.is("ahead(0)", x.ahead(0), 200);
        Check.is("ahead(1)", x.ahead(1), 2);
    }

    private static void notesAreEdits() {
        CindermapStore x = Check.drawn(".5");
        x.device();
        x.open();
        x.paint(0, 0, 1, 0, 7);
        Check.is("a note of what was seen at first", homeAt(x, 0, 40, 5), 1);
        Check.is("edits(0)", x.edits(0), 0);
        Check.is("a note of an earlier time", homeAt(x, 0, 39, 6), 0);
        Check.is("edits(0)", x.edits(0), 0);
        x.paint(0, 0, 1, 0, 8);
        Check.is("a paint against the times", x.seen(0, 1), 8);
        Check.is("a later note", homeAt(x, 0, 41, 0), 1);
        Check.is("seen(0, 1)", x.seen(0, 1), 0);
        Check.is("merge(0)", x.merge(0), 1);
    }

    private static void timesGoWithTheBranch() {
        CindermapStore x = new CindermapStore();
        x.device();
        x.open();
        x.open();
        homeAt(x, 0, 100, 1);
        x.note(0, 50, 0, 1, 0, 2);
        Check.is("an earlier note to another branch", x.home(0, 1, 0, 0), 1);
        x.drop(0);
        x.open();
        Check.is("an earlier note to a branch opened again", homeAt(x, 0, 50, 2), 1);
        Check.is("seen(0, 1)", x.seen(0, 1), 2);
        x.merge(0);
        x.open();
        Check.is("an earlier note after a merge", homeAt(x, 0, 40, 3), 1);
    }

    private static void clocksAreAheadOrBehind() {
        CindermapStore x = new CindermapStore();
        x.device();
        x.device();
        x.open();
        x.note(0, 0, 0, 1, 0, 1);
        Check.is("a note of the earliest right time", x.home(0, 0, 9999, 0), 1);
        Check.is("ahead(0)", x.ahead(0), 9999);
        Check.is("seen(0, 1)", x.seen(0, 1), 1);
        x.note(1, 9999, 0, 1, 0, 2);
        Check.is("a note of the latest right time", x.home(1, 0, 0, 9999), 1);
        Check.is("ahead(1)", x.ahead(1), -9999);
        Check.is("a late note by a right clock", homeAt(x, 0, 9999, 3), 0);
        Check.is("ahead(0)", x.ahead(0), 0);
        Check.is("seen(0, 1)", x.seen(0, 1), 2);
    }

    private static void wrongHomecomingsAreRefused() {
        CindermapStore x = new CindermapStore();
        x.device();
        x.open();
        x.note(0, 5, 0, 0, 0, 1);
        Check.fails("home(1, 0, 0, 0)", Check.INDEX, x, () -> x.home(1, 0, 0, 0));
        Check.fails("home(-1, 0, 0, 0)", Check.INDEX, x, () -> x.home(-1, 0, 0, 0));
        Check.fails("home(3, 0, 0, 0)", Check.INDEX, x, () -> x.home(3, 0, 0, 0));
        Check.fails("home(0, 1, 0, 0)", Check.INDEX, x, () -> x.home(0, 1, 0, 0));
        Check.fails("home(0, 4, 0, -1)", Check.INDEX, x, () -> x.home(0, 4, 0, -1));
        Check.fails("home(0, -1, 0, 0)", Check.INDEX, x, () -> x.home(0, -1, 0, 0));
        Check.fails("home(0, 0, -1, 0)", Check.ARGUMENT, x, () -> x.home(0, 0, -1, 0));
        Check.fails("home(0, 0, 10000, 0)", Check.ARGUMENT, x, () -> x.home(0, 0, 10000, 0));
        Check.fails("home(0, 0, 0, -1)", Check.ARGUMENT, x, () -> x.home(0, 0, 0, -1));
        Check.fails("home(0, 0, 0, 10000)", Check.ARGUMENT, x, () -> x.home(0, 0, 0, 10000));
        Check.is("home(0, 0, 9999, 9999)", x.home(0, 0, 9999, 9999), 1);
    }
}
