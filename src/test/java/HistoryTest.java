/** Promises 16 to 19: values, changes and routes by versions. */
public final class HistoryTest {
    public static void main(String[] args) {
        valuesByVersions();
        changesBySpots();
        routesByVersions();
        routesGoBothWays();
        theShortestRouteCounts();
        wrongRoutesAreRefused();
        Check.end();
    }

    /** The spot 9 goes 0, 4, 4, 6, 4; the road 201 is there in version 2 to 4. */
    private static CindermapStore changed() {
        CindermapStore x = new CindermapStore();
        Check.bring(x, 0, 1, 1, 4);
        x.open();
        x.road(0, 2, 1, false, true);
        x.merge(0);
        Check.bring(x, 0, 1, 1, 6);
        x.undo();
        return x;
    }

    private static void valuesByVersions() {
        CindermapStore x = changed();
        int[] places = {0, 4, 4, 6, 4};
        int[] roads = {0, 0, 1, 1, 1};
        for (int version = 0; version <= 4; version++) {
            Check.is("value(9, " + version + ")", x.value(9, version), places[version]);
            Check.is("value(201, " + version + ")", x.value(201, version), roads[version]);
            Check.is("value(303, " + version + ")", x.value(303, version), 0);
        }
        Check.fails("value(9, 5)", Check.ARGUMENT, x, () -> x.value(9, 5));
        Check.fails("value(9, -1)", Check.ARGUMENT, x, () -> x.value(9, -1));
        Check.fails("value(304, 0)", Check.ARGUMENT, x, () -> x.value(304, 0));
        Check.fails("value(-1, 0)", Check.ARGUMENT, x, () -> x.value(-1, 0));
    }

    private static void changesBySpots() {
        CindermapStore x = changed();
        Check.is("changes(9)", x.changes(9), 3);
        Check.is("changes(201)", x.changes(201), 1);
        Check.is("changes(0)", x.changes(0), 0);
        Check.is("changes(303)", x.changes(303), 0);
        Check.is("changed(9, 0)", x.changed(9, 0), 1);
        Check.is("changed(9, 1)", x.changed(9, 1), 3);
        Check.is("changed(9, 2)", x.changed(9, 2), 4);
        Check.is("changed(201, 0)", x.changed(201, 0), 2);
        Check.fails("changed(9, 3)", Check.NO_ELEMENT, x, () -> x.changed(9, 3));
        Check.fails("changed(9, -1)", Check.NO_ELEMENT, x, () -> x.changed(9, -1));
        Check.fails("changed(0, 0)", Check.NO_ELEMENT, x, () -> x.changed(0, 0));
        Check.fails("changed(304, 0)", Check.ARGUMENT, x, () -> x.changed(304, 0));
        Check.fails("changed(-1, -1)", Check.ARGUMENT, x, () -> x.changed(-1, -1));
        Check.fails("changes(304)", Check.ARGUMENT, x, () -> x.changes(304));
        Check.fails("changes(-1)", Check.ARGUMENT, x, () -> x.changes(-1));
    }

    private static void routesByVersions() {
        CindermapStore x = changed();
        Check.fails("route(10, 11, 1)", Check.NO_ELEMENT, x, () -> x.route(10, 11, 1));
        Check.is("route(10, 11, 2)", x.route(10, 11, 2), 1);
        x.open();
        x.road(0, 2, 1, false, false);
        x.merge(0);
        Check.is("route(10, 11, 4)", x.route(10, 11, 4), 1);
        Check.fails("route(10, 11, 5)", Check.NO_ELEMENT, x, () -> x.route(10, 11, 5));
        Check.is("route(10, 10, 5)", x.route(10, 10, 5), 0);
        Check.is("route(63, 63, 0)", x.route(63, 63, 0), 0);
    }

    private static void routesGoBothWays() {
        CindermapStore x = new CindermapStore();
        x.open();
        x.road(0, 0, 0, false, true);
        x.road(0, 1, 0, true, true);
        x.road(0, 0, 1, false, true);
        x.road(0, 6, 0, false, true);
        x.merge(0);
        Check.is("route(0, 8, 1)", x.route(0, 8, 1), 3);
        Check.is("route(8, 0, 1)", x.route(8, 0, 1), 3);
        Check.is("route(9, 0, 1)", x.route(9, 0, 1), 2);
        Check.is("route(7, 6, 1)", x.route(7, 6, 1), 1);
        Check.fails("route(7, 8, 1), over the row's end", Check.NO_ELEMENT, x, () -> x.route(7, 8, 1));
    }

    private static void theShortestRouteCounts() {
        CindermapStore x = Check.snake();
        Check.is("route(0, 56, 1) along a snake", x.route(0, 56, 1), 63);
        Check.is("route(56, 0, 1) along a snake", x.route(56, 0, 1), 63);
        x.open();
        x.road(0, 3, 3, true, true);
        x.merge(0);
        Check.is("route(0, 56, 2) with a way across", x.route(0, 56, 2), 57);
        Check.is("route(0, 56, 1) as it was", x.route(0, 56, 1), 63);
    }

    private static void wrongRoutesAreRefused() {
        CindermapStore x = new CindermapStore();
        Check.fails("route(-1, 0, 0)", Check.ARGUMENT, x, () -> x.route(-1, 0, 0));
        Check.fails("route(64, 0, 0)", Check.ARGUMENT, x, () -> x.route(64, 0, 0));
        Check.fails("route(0, -1, 0)", Check.ARGUMENT, x, () -> x.route(0, -1, 0));
        Check.fails("route(0, 64, 0)", Check.ARGUMENT, x, () -> x.route(0, 64, 0));
        Check.fails("route(0, 0, 1)", Check.ARGUMENT, x, () -> x.route(0, 0, 1));
        Check.fails("route(0, 0, -1)", Check.ARGUMENT, x, () -> x.route(0, 0, -1));
        Check.fails("route(0, 1, 0)", Check.NO_ELEMENT, x, () -> x.route(0, 1, 0));
    }
}
