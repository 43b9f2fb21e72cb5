import java.util.function.ObjIntConsumer;

/** Boundary cases of promises 29 to 32: devices, their notes, and how they are brought home. */
final class FieldEdges {
    private FieldEdges() {
    }

    static void run() {
        Edge.of(29, "At most 3 devices are numbered from 0;", FieldEdges::threeDevices);
        Edge.of(29, "Returns its number.", FieldEdges::theNumberIsThatOfLaterCalls);
        Edge.of(29, "Throws `IllegalStateException` if there are 3", FieldEdges::aFourthDevice);
        Edge.of(30, "each keeps at most 20 notes, of a time by its own clock, 0 to 9999, a place, a layer and an area.",
            FieldEdges::twentyNotes);
        Edge.of(30, "Returns how many notes it has.", FieldEdges::oneToTwentyNotes);
        Edge.of(30, "Throws `IndexOutOfBoundsException` if there is no such device",
            () -> noSuchDevice("note", (store, device) -> store.note(device, 0, 0, 0, 0, 1)));
        Edge.of(30, "Throws `IllegalArgumentException` if a number is out of range", FieldEdges::wrongNotes);
        Edge.of(30, "Throws `IllegalStateException` if it has 20", FieldEdges::aNoteMore);
        Edge.of(32, "As a device is brought home, its own time and the right one are told, and from both how much it is"
            + " ahead;", FieldEdges::aheadAndBehind);
        Edge.of(31, "the right time of each note is less by that.", FieldEdges::rightTimes);
        Edge.of(31, "The notes are brought into a branch in the order of their right times,", FieldEdges::orderOfTimes);
        Edge.of(31, "of like ones as they were noted;", FieldEdges::orderOfLikeTimes);
        Edge.of(31, "a note is dropped if a note with a later right time was brought", FieldEdges::laterTimesAlone);
        Edge.of(31, "to the same spot of this branch since it was opened,", FieldEdges::sameSpotOfThisBranch);
        Edge.of(31, "and counts as an edit otherwise.", FieldEdges::notesAsEdits);
        Edge.of(31, "Returns how many notes were not dropped.", FieldEdges::noneToAllNotes);
        Edge.of(31, "Throws `IndexOutOfBoundsException` if there is no such device or branch",
            FieldEdges::noSuchDeviceOrBranch);
        Edge.of(31, "Throws `IllegalArgumentException` if a number is out of range", FieldEdges::wrongTimes);
        Edge.of(32, "Returns how much the clock of a device was ahead as it was brought home last.",
            FieldEdges::theLastTimeAlone);
        Edge.of(32, "Returns how much, 0 if it never was.", FieldEdges::neverBroughtHome);
        Edge.of(32, "Throws `IndexOutOfBoundsException` if there is no such device",
            () -> noSuchDevice("ahead", CindermapStore::ahead));
    }

    private static CindermapStore withDevices(int count) {
        CindermapStore store = new CindermapStore();
        for (int device = 0; device < count; device++) {
            Check.is("device()", store.device(), device);
        }
        store.open();
        return store;
    }

    private static void noSuchDevice(String call, ObjIntConsumer<CindermapStore> made) {
        for (int count = 0; count <= 3; count++) {
            CindermapStore store = withDevices(count);
            int last = count - 1;
            Edge.range(call + " with " + count + " devices", Check.INDEX, store, 0, last, device -> made.accept(store, device));
        }
    }

    private static void threeDevices() {
        CindermapStore store = new CindermapStore();
        for (int device = 0; device < 3; device++) {
            int number = device;
            Check.fails("ahead(" + device + ") before it is there", Check.INDEX, store, () -> store.ahead(number));
            Check.is("device()", store.device(), device);
            Check.is("ahead(" + device + ")", store.ahead(device), 0);
        }
        Check.fails("a fourth device()", Check.STATE, store, store::device);
        Check.fails("ahead(3)", Check.INDEX, store, () -> store.ahead(3));
    }

    private static void theNumberIsThatOfLaterCalls() {
        CindermapStore store = withDevices(3);
        for (int device = 0; device < 3; device++) {
            store.note(device, 0, 0, device, 0, 7 + device);
        }
        for (int device = 2; device >= 0; device--) {
            Check.is("seen before home", store.seen(0, device), 0);
            Check.is("home", store.home(device, 0, device, 0), 1);
            Check.is("seen", store.seen(0, device), 7 + device);
            Check.is("ahead", store.ahead(device), device);
        }
    }

    private static void aFourthDevice() {
        CindermapStore store = withDevices(3);
        Check.fails("device() with 3", Check.STATE, store, store::device);
        store.home(0, 0, 0, 0);
        Check.fails("device() with 3, one brought home", Check.STATE, store, store::device);
        store.merge(0);
        Check.fails("device() with 3 and no branch", Check.STATE, store, store::device);
    }

    /** Notes that area at the first place so many times. */
    private static void noteTimes(CindermapStore store, int device, int count) {
        for (int number = 0; number < count; number++) {
            store.note(device, 0, 0, 0, 0, 1);
        }
    }

    private static void twentyNotes() {
        CindermapStore store = withDevices(2);
        noteTimes(store, 0, 19);
        Check.is("a twentieth note", store.note(0, 9999, 2, 7, 7, 9), 20);
        Check.fails("a note more", Check.STATE, store, () -> store.note(0, 0, 0, 0, 0, 1));
        Check.is("a note of another device", store.note(1, 0, 0, 0, 0, 1), 1);
        Check.is("home(0, 0, 0, 0)", store.home(0, 0, 0, 0), 20);
        Check.is("seen(0, 191)", store.seen(0, 191), 9);
        Check.is("seen(0, 0)", store.seen(0, 0), 1);
    }

    private static void oneToTwentyNotes() {
        CindermapStore store = withDevices(2);
        for (int count = 1; count <= 20; count++) {
            Check.is("a note", store.note(1, 20 - count, 0, 0, 0, 1), count);
        }
        Check.is("the first note of another device", store.note(0, 0, 0, 0, 0, 1), 1);
        store.home(1, 0, 0, 0);
        Check.is("the first note again", store.note(1, 0, 0, 0, 0, 1), 1);
        Check.is("the second note of the other device", store.note(0, 0, 0, 0, 0, 1), 2);
    }

    private static void wrongNotes() {
        CindermapStore store = withDevices(2);
        for (int time : new int[] {0, 9999}) {
            Check.is("a note of the time " + time, store.note(0, time, 0, 0, 0, 1), time == 0 ? 1 : 2);
        }
        for (int time : new int[] {-1, 10000, Integer.MIN_VALUE, Integer.MAX_VALUE}) {
            Check.fails("a note of the time " + time, Check.ARGUMENT, store, () -> store.note(0, time, 0, 0, 0, 1));
        }
        Edge.range("note, layer", Check.ARGUMENT, store, 0, 2, layer -> store.note(0, 0, layer, 7, 7, 9));
        Edge.range("note, area", Check.ARGUMENT, store, 0, 9, area -> store.note(0, 0, 2, 7, 7, area));
        Edge.range("note, x", Check.ARGUMENT, store, 0, 7, x -> store.note(1, 0, 2, x, 7, 9));
        Edge.range("note, y", Check.ARGUMENT, store, 0, 7, y -> store.note(1, 0, 2, 7, y, 9));
        Check.is("home(0, 0, 0, 0)", store.home(0, 0, 0, 0), 2 + 3 + 10);
        Check.is("home(1, 0, 0, 0)", store.home(1, 0, 0, 0), 8 + 8);
        Check.is("edits(0)", store.edits(0), 1 + 3 + 7 + 7);
    }

    private static void aNoteMore() {
        CindermapStore store = withDevices(3);
        for (int device = 0; device < 3; device++) {
            int full = device;
            noteTimes(store, device, 20);
            Check.fails("a note more of the device " + device, Check.STATE, store, () -> store.note(full, 0, 0, 0, 0, 1));
        }
        store.home(2, 0, 0, 0);
        Check.is("a note after coming home", store.note(2, 0, 0, 0, 0, 1), 1);
        noteTimes(store, 2, 19);
        Check.fails("a note more again", Check.STATE, store, () -> store.note(2, 0, 0, 0, 0, 1));
    }

    private static void aheadAndBehind() {
        int[][] told = {{0, 0, 0}, {9999, 9999, 0}, {1, 0, 1}, {0, 1, -1}, {9999, 0, 9999}, {0, 9999, -9999},
            {150, 130, 20}};
        CindermapStore store = withDevices(1);
        for (int[] row : told) {
            store.home(0, 0, row[0], row[1]);
            Check.is("ahead(0) of " + row[0] + " by the right " + row[1], store.ahead(0), row[2]);
        }
    }

    /** Notes an area at (1, 0) by that time, and brings the device to branch 0. */
    private static int bring(CindermapStore store, int device, int time, int area, int own, int right) {
        store.note(device, time, 0, 1, 0, area);
        return store.home(device, 0, own, right);
    }

    private static void rightTimes() {
        CindermapStore store = withDevices(2);
        Check.is("9999 by a clock 9999 ahead: 0", bring(store, 0, 9999, 1, 9999, 0), 1);
        Check.is("0 by a clock 1 ahead: -1", bring(store, 1, 0, 2, 1, 0), 0);
        Check.is("0 by a right clock: 0", bring(store, 1, 0, 2, 0, 0), 1);
        Check.is("0 by a clock 1 behind: 1", bring(store, 0, 0, 3, 0, 1), 1);
        Check.is("2 by a clock 2 ahead: 0", bring(store, 1, 2, 4, 2, 0), 0);
        Check.is("9999 by a clock 9999 behind: 19998", bring(store, 0, 9999, 5, 0, 9999), 1);
        Check.is("9999 by a clock 9998 behind: 19997", bring(store, 1, 9999, 6, 1, 9999), 0);
        Check.is("seen(0, 1)", store.seen(0, 1), 5);
        CindermapStore early = withDevices(2);
        Check.is("0 by a clock 9999 ahead: -9999", bring(early, 0, 0, 1, 9999, 0), 1);
        Check.is("the same again", bring(early, 1, 0, 2, 9999, 0), 1);
        Check.is("1 by a clock 9999 ahead: -9998", bring(early, 1, 1, 3, 9999, 0), 1);
        Check.is("0 by a clock 9999 ahead: -9999", bring(early, 0, 0, 4, 9999, 0), 0);
        Check.is("seen(0, 1)", early.seen(0, 1), 3);
    }

    private static void orderOfTimes() {
        CindermapStore store = withDevices(1);
        int[] times = {5, 9999, 3, 0, 4};
        for (int number = 0; number < times.length; number++) {
            store.note(0, times[number], 0, 1, 0, 1 + number);
            store.note(0, times[number], 0, 2 + number % 2, 0, 1 + number);
        }
        Check.is("home(0, 0, 0, 0)", store.home(0, 0, 0, 0), 10);
        Check.is("seen(0, 1), of the last time", store.seen(0, 1), 2);
        Check.is("seen(0, 2), of 5, 3 and 4", store.seen(0, 2), 1);
        Check.is("seen(0, 3), of 9999 and 0", store.seen(0, 3), 2);
    }

    private static void orderOfLikeTimes() {
        CindermapStore store = withDevices(1);
        for (int number = 1; number <= 9; number++) {
            store.note(0, 7, 0, 1, 0, number);
            store.note(0, 6, 0, 1, 0, 10 - number);
        }
        Check.is("home(0, 0, 0, 0)", store.home(0, 0, 0, 0), 18);
        Check.is("seen(0, 1), the last as noted of the last time", store.seen(0, 1), 9);
        store.note(0, 8, 0, 1, 0, 4);
        store.note(0, 8, 0, 1, 0, 0);
        Check.is("home(0, 0, 0, 0)", store.home(0, 0, 0, 0), 2);
        Check.is("edits(0), the last note telling none", store.edits(0), 0);
    }

    private static void laterTimesAlone() {
        CindermapStore store = withDevices(2);
        Check.is("the first note", bring(store, 0, 500, 1, 0, 0), 1);
        Check.is("one of an earlier time by one", bring(store, 1, 499, 2, 0, 0), 0);
        Check.is("seen(0, 1)", store.seen(0, 1), 1);
        Check.is("one of the same time", bring(store, 1, 500, 3, 0, 0), 1);
        Check.is("seen(0, 1)", store.seen(0, 1), 3);
        Check.is("one of a later time by one", bring(store, 1, 501, 4, 0, 0), 1);
        Check.is("one of the first time again", bring(store, 0, 500, 5, 0, 0), 0);
        Check.is("seen(0, 1)", store.seen(0, 1), 4);
    }

    private static void sameSpotOfThisBranch() {
        CindermapStore store = withDevices(1);
        store.open();
        bring(store, 0, 500, 1, 0, 0);
        store.note(0, 0, 0, 0, 0, 2);
        store.note(0, 0, 0, 2, 0, 2);
        store.note(0, 0, 1, 1, 0, 2);
        store.note(0, 0, 0, 1, 0, 2);
        Check.is("notes of four spots", store.home(0, 0, 0, 0), 3);
        store.note(0, 0, 0, 1, 0, 3);
        Check.is("a note to another branch", store.home(0, 1, 0, 0), 1);
        store.drop(0);
        store.open();
        Check.is("a note to a branch opened again", bring(store, 0, 1, 4, 0, 0), 1);
        store.merge(0);
        store.open();
        Check.is("a note to a branch opened behind a merge", bring(store, 0, 0, 5, 0, 0), 1);
        store.paint(0, 0, 1, 0, 6);
        Check.is("a note behind an edit without a time", bring(store, 0, 0, 7, 0, 0), 1);
        store.paint(0, 0, 1, 0, 4);
        Check.is("edits(0)", store.edits(0), 0);
        Check.is("a note before one whose edit is taken back", bring(store, 0, 0, 8, 1, 0), 0);
    }

    private static void notesAsEdits() {
        CindermapStore store = Check.drawn(".5");
        store.device();
        store.open();
        Check.is("a note of what was seen", bring(store, 0, 10, 5, 0, 0), 1);
        Check.is("edits(0)", store.edits(0), 0);
        Check.is("a note before it", bring(store, 0, 9, 6, 0, 0), 0);
        Check.is("edits(0)", store.edits(0), 0);
        Check.is("a note of none", bring(store, 0, 10, 0, 0, 0), 1);
        Check.is("edits(0)", store.edits(0), 1);
        Check.is("seen(0, 1)", store.seen(0, 1), 0);
        Check.is("a note of what was seen at first", bring(store, 0, 11, 5, 0, 0), 1);
        Check.is("edits(0)", store.edits(0), 0);
        bring(store, 0, 11, 7, 0, 0);
        Check.bring(store, 0, 1, 0, 8);
        Check.is("conflicts(0)", store.conflicts(0), 1);
        Check.is("a note of what the map has by now", bring(store, 0, 11, 8, 0, 0), 1);
        Check.is("conflicts(0)", store.conflicts(0), 0);
        Check.is("edits(0)", store.edits(0), 1);
        Check.is("value(1, 2), the branch not merged", store.value(1, 2), 8);
    }

    private static void noneToAllNotes() {
        CindermapStore store = withDevices(2);
        Check.is("home(0, 0, 0, 0) without notes", store.home(0, 0, 0, 0), 0);
        noteTimes(store, 0, 20);
        Check.is("home(0, 0, 0, 1) with 20", store.home(0, 0, 0, 1), 20);
        Check.is("home(0, 0, 0, 1) again", store.home(0, 0, 0, 1), 0);
        noteTimes(store, 1, 20);
        Check.is("home(1, 0, 0, 0) with 20 of an earlier time", store.home(1, 0, 0, 0), 0);
        Check.is("home(1, 0, 9, 0) again, the dropped ones gone as well", store.home(1, 0, 9, 0), 0);
        noteTimes(store, 1, 19);
        store.note(1, 1, 0, 0, 0, 3);
        Check.is("home(1, 0, 0, 0) with one of the time", store.home(1, 0, 0, 0), 1);
        Check.is("seen(0, 0)", store.seen(0, 0), 3);
    }

    private static void noSuchDeviceOrBranch() {
        noSuchDevice("home", (store, device) -> store.home(device, 0, 0, 0));
        Edge.noSuchBranch("home without devices", (store, branch) -> store.home(0, branch, 0, 0));
        CindermapStore store = withDevices(1);
        store.note(0, 0, 0, 0, 0, 1);
        store.open();
        store.drop(1);
        for (int branch : new int[] {-1, 1, 2, 3, 4, Integer.MIN_VALUE, Integer.MAX_VALUE}) {
            Check.fails("home(0, " + branch + ", 1, 0)", Check.INDEX, store, () -> store.home(0, branch, 1, 0));
        }
        Check.is("ahead(0)", store.ahead(0), 0);
        Check.is("home(0, 0, 1, 0)", store.home(0, 0, 1, 0), 1);
    }

    private static void wrongTimes() {
        CindermapStore store = withDevices(1);
        store.note(0, 0, 0, 0, 0, 1);
        for (int time : new int[] {-1, 10000, Integer.MIN_VALUE, Integer.MAX_VALUE}) {
            Check.fails("home(0, 0, " + time + ", 5)", Check.ARGUMENT, store, () -> store.home(0, 0, time, 5));
            Check.fails("home(0, 0, 5, " + time + ")", Check.ARGUMENT, store, () -> store.home(0, 0, 5, time));
        }
        Check.is("home(0, 0, 9999, 9999)", store.home(0, 0, 9999, 9999), 1);
        Check.is("home(0, 0, 0, 0)", store.home(0, 0, 0, 0), 0);
    }

    private static void theLastTimeAlone() {
        CindermapStore store = withDevices(2);
        store.home(0, 0, 9999, 0);
        store.home(1, 0, 0, 9999);
        Check.is("ahead(0)", store.ahead(0), 9999);
        Check.is("ahead(1)", store.ahead(1), -9999);
        store.home(0, 0, 4, 7);
        Check.is("ahead(0), brought home again", store.ahead(0), -3);
        Check.fails("home(0, 1, 0, 0)", Check.INDEX, store, () -> store.home(0, 1, 0, 0));
        Check.fails("home(0, 0, 0, 10000)", Check.ARGUMENT, store, () -> store.home(0, 0, 0, 10000));
        Check.is("ahead(0) behind refused calls", store.ahead(0), -3);
        store.drop(0);
        Check.is("ahead(0) without the branch", store.ahead(0), -3);
        Check.is("ahead(1)", store.ahead(1), -9999);
    }

    private static void neverBroughtHome() {
        CindermapStore store = withDevices(3);
        store.note(1, 77, 0, 0, 0, 1);
        store.home(0, 0, 5, 0);
        Check.is("ahead(0)", store.ahead(0), 5);
        Check.is("ahead(1), which has a note", store.ahead(1), 0);
        Check.is("ahead(2)", store.ahead(2), 0);
    }
}
