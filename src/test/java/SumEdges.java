import java.math.BigInteger;

/** Boundary cases of promises 33 to 36: shares, means, the checksum that wraps around, and soundness. */
final class SumEdges {
    private static final String FULL = "99999999";

    private SumEdges() {
    }

    static void run() {
        Edge.of(33, "Returns the share of places of a layer that have areas.", SumEdges::noneToAllPlaces);
        Edge.of(33, "Returns their number divided by 64, both converted to float.", SumEdges::eachShare);
        Edge.of(33, "Throws `IllegalArgumentException` if a number is out of range", SumEdges::wrongLayersOfShares);
        Edge.of(34, "Returns the mean size of areas of a layer that have places.", SumEdges::oneToAllAreas);
        Edge.of(34, "Returns the places divided by the areas, both converted to double.", SumEdges::meansThatAreNotWhole);
        Edge.of(34, "Throws `IllegalArgumentException` if a number is out of range", SumEdges::wrongLayersOfMeans);
        Edge.of(34, "Throws `ArithmeticException` if there are none", SumEdges::noMean);
        Edge.of(35, "Returns a sum over the map. Returns 7 at first, then for each spot 31 times itself plus its value,",
            SumEdges::checksumsOfSpots);
        Edge.of(35, "then 31 times itself plus the version.", SumEdges::checksumsOfVersions);
        Edge.of(36, "Returns whether all is sound:", SumEdges::soundAtEachLimit);
        Edge.of(36, "the map keeps all rules, looked at by all pairs of places;", SumEdges::rulesByPairs);
        Edge.of(36, "the versions lead to the map;", SumEdges::versionsLeadToTheMap);
        Edge.of(36, "tiles that are kept are right;", SumEdges::keptTilesAreRight);
        Edge.of(36, "and no branch has an edit to what it saw as it was opened.", SumEdges::noIdleEdits);
        Edge.of(36, "Returns true if so.", SumEdges::soundAsItIsUsed);
    }

    private static void noneToAllPlaces() {
        CindermapStore store = Check.drawn(FULL, FULL, FULL, FULL, FULL, FULL, FULL, "9999999");
        Check.is("fullShare(0) of all but one", store.fullShare(0), 63.0f / 64.0f);
        Check.is("fullShare(1)", store.fullShare(1), 0.0f);
        Check.bring(store, 0, 7, 7, 1);
        Check.is("fullShare(0) of all", store.fullShare(0), 1.0f);
        store.open();
        store.paint(0, 1, 0, 0, 1);
        Check.is("fullShare(1) with an edit not merged", store.fullShare(1), 0.0f);
    }

    private static void eachShare() {
        CindermapStore store = new CindermapStore();
        for (int count = 1; count <= 40; count++) {
            Check.bring(store, 2, count % 8, count / 8, 9);
            Check.is("fullShare(2) of " + count, store.fullShare(2), (float) count / 64f);
        }
    }

    private static void wrongLayersOfShares() {
        CindermapStore store = Check.drawn("1");
        Edge.range("fullShare", Check.ARGUMENT, store, 0, 2, layer -> store.fullShare(layer));
    }

    private static void oneToAllAreas() {
        Check.is("meanSize(0) of one place", Check.drawn("9").meanSize(0), 1.0);
        Check.is("meanSize(0) of nine places", Check.drawn("12345678", "9").meanSize(0), 1.0);
        Check.is("meanSize(0) of one area in two parts", Check.drawn("5.5").meanSize(0), 2.0);
        CindermapStore store = Check.drawn(FULL, FULL, FULL, FULL, FULL, FULL, FULL, FULL);
        Check.is("meanSize(0) of all places", store.meanSize(0), 64.0);
        Check.bring(store, 0, 0, 0, 1);
        Check.is("meanSize(0) of two areas", store.meanSize(0), 32.0);
    }

    private static void meansThatAreNotWhole() {
        Check.is("meanSize(0) of five places and two areas", Check.drawn("11222").meanSize(0), 2.5);
        Check.is("meanSize(0) of four places and three areas", Check.drawn("1123").meanSize(0), 4.0 / 3.0);
        Check.is("meanSize(0) of 64 places and nine areas",
            Check.drawn("12345678", FULL, FULL, FULL, FULL, FULL, FULL, FULL).meanSize(0), 64.0 / 9.0);
    }

    private static void wrongLayersOfMeans() {
        CindermapStore store = new CindermapStore();
        store.open();
        for (int layer = 0; layer < 3; layer++) {
            store.paint(0, layer, 0, 0, 1);
        }
        store.merge(0);
        Edge.range("meanSize", Check.ARGUMENT, store, 0, 2, layer -> store.meanSize(layer));
    }

    private static void noMean() {
        CindermapStore store = Check.drawn("1");
        Check.is("meanSize(0)", store.meanSize(0), 1.0);
        Check.fails("meanSize(1)", ArithmeticException.class, store, () -> store.meanSize(1));
        Check.fails("meanSize(2)", ArithmeticException.class, store, () -> store.meanSize(2));
        store.undo();
        Check.fails("meanSize(0), undone", ArithmeticException.class, store, () -> store.meanSize(0));
        store.open();
        store.paint(0, 0, 0, 0, 1);
        Check.fails("meanSize(0) with an edit alone", ArithmeticException.class, store, () -> store.meanSize(0));
    }

    /** The sum of a map that is empty but for some spots, each told with its value; it wraps as a long does. */
    static long sumOf(int version, int[]... full) {
        BigInteger sum = BigInteger.valueOf(7);
        for (int spot = 0; spot < 304; spot++) {
            int value = 0;
            for (int[] told : full) {
                value = told[0] == spot ? told[1] : value;
            }
            sum = sum.multiply(BigInteger.valueOf(31)).add(BigInteger.valueOf(value));
        }
        return sum.multiply(BigInteger.valueOf(31)).add(BigInteger.valueOf(version)).longValue();
    }

    private static void checksumsOfSpots() {
        CindermapStore store = new CindermapStore();
        Check.is("checksum() of an empty map", store.checksum(), sumOf(0));
        store.open();
        store.paint(0, 0, 0, 0, 9);
        Check.is("checksum() with an edit alone", store.checksum(), sumOf(0));
        store.merge(0);
        Check.is("checksum() with the first spot", store.checksum(), sumOf(1, new int[] {0, 9}));
        store.open();
        store.road(0, 7, 6, true, true);
        store.paint(0, 2, 7, 7, 4);
        store.road(0, 0, 0, false, true);
        store.merge(0);
        Check.is("checksum() with the last spot", store.checksum(),
            sumOf(2, new int[] {0, 9}, new int[] {191, 4}, new int[] {192, 1}, new int[] {303, 1}));
        CindermapStore full = new CindermapStore();
        full.open();
        MapEdges.editAll(full, 0, 9);
        full.merge(0);
        int[][] all = new int[304][];
        for (int spot = 0; spot < 304; spot++) {
            all[spot] = new int[] {spot, spot < 192 ? 9 : 1};
        }
        Check.is("checksum() with all spots", full.checksum(), sumOf(1, all));
    }

    private static void checksumsOfVersions() {
        CindermapStore store = new CindermapStore();
        for (int version = 1; version <= 40; version++) {
            Check.bring(store, 0, 0, 0, version % 2);
            Check.is("checksum() by version " + version, store.checksum(), sumOf(version, new int[] {0, version % 2}));
        }
    }

    private static void isSound(CindermapStore store, String told, boolean due) {
        Check.is("isSound() " + told, store.isSound(), due);
    }

    private static void soundAtEachLimit() {
        CindermapStore store = new CindermapStore();
        isSound(store, "of a new object", true);
        for (int number = 0; number < 6; number++) {
            store.rule("cxgwmw".charAt(number), 1, 2);
        }
        isSound(store, "with 6 rules", true);
        for (int version = 1; version <= 40; version++) {
            Check.bring(store, 0, 7, 7, version % 2);
            store.tile(8 >> version % 4, 0, version % 4 == 3 ? 7 : 0, version % 4 == 3 ? 7 : 0);
        }
        isSound(store, "with 40 versions", true);
        for (int branch = 0; branch < 4; branch++) {
            store.open();
            store.paint(branch, 0, 7, 7, 5);
            store.paint(branch, 0, 7, 7, 0);
            store.paint(branch, 1, 1, 1, 5);
        }
        isSound(store, "with 4 branches, whose edits break rules", true);
    }

    /** A map that keeps the rule is sound, and as the spot is set past the rule it is not. */
    private static void setAgainst(char kind, int spot, int value, String... rows) {
        CindermapStore store = Check.drawn(rows);
        Check.bring(store, 2, 0, 0, 1);
        store.rule(kind, 0, 1);
        isSound(store, "with " + kind, true);
        Check.set(store, spot, value);
        isSound(store, "with " + kind + " broken at " + spot, false);
    }

    private static void rulesByPairs() {
        for (int place : new int[] {0, 63}) {
            setAgainst('c', place, 9);
        }
        for (int place : new int[] {64, 127}) {
            setAgainst('x', place, 1, FULL, FULL, FULL, FULL, FULL, FULL, FULL, FULL);
        }
        for (int place : new int[] {0, 7, 27, 56, 63}) {
            setAgainst('g', place, 0, FULL, FULL, FULL, FULL, FULL, FULL, FULL, FULL);
        }
        setAgainst('w', 63, 5, "5");
        setAgainst('w', 9, 5, "5");
        setAgainst('w', 8, 5, ".......5");
        setAgainst('w', 3, 0, "11111111");
        for (int spot : new int[] {192 + 7 + 1, 192 + 7, 248 + 1, 248 + 49, 192 + 48}) {
            setAgainst('m', spot, 1);
        }
        CindermapStore elsewhere = new CindermapStore();
        Check.bring(elsewhere, 1, 5, 5, 1);
        elsewhere.rule('c', 0, 1);
        Check.set(elsewhere, 0, 9);
        isSound(elsewhere, "with c and the second layer's area at another place", false);
        CindermapStore edge = Check.drawn("1");
        edge.rule('m', 0, 0);
        Check.set(edge, 192, 1);
        isSound(edge, "with m and a single road at the edge", true);
        mapsThatKeepARule();
        groupsOfPlacesAnew();
    }

    /** What c needs in layer 1 is there wherever layer 0 has an area. */
    private static void kept(char kind, String... rows) {
        CindermapStore store = new CindermapStore();
        store.open();
        Check.draw(store, 0, 0, rows);
        Check.draw(store, 0, kind == 'c' ? 1 : 2, rows);
        store.paint(0, 1, 7, 7, 1);
        store.road(0, 3, 2, true, true);
        store.road(0, 3, 3, true, true);
        store.road(0, 3, 2, false, true);
        store.road(0, 4, 2, true, true);
        store.road(0, 3, 4, false, true);
        store.road(0, 4, 3, true, true);
        store.merge(0);
        Check.is("rule " + kind, store.rule(kind, 0, 1), 0);
        isSound(store, "with " + kind + " kept", true);
    }

    private static void mapsThatKeepARule() {
        kept('c', "1.2", "3");
        kept('x', "1.2", "3");
        kept('w', "1.2", "1.2", "1.2", "1");
        kept('w', "3333", "2223", "2.33");
        kept('g', FULL, FULL, "999.9999", "999.9999", FULL, FULL, FULL, FULL);
        kept('g', FULL, FULL, "999..999", FULL, FULL, FULL, FULL, FULL);
        kept('m', "1");
    }

    /** Two arms that meet late, and then what is left of them without the way between. */
    private static void groupsOfPlacesAnew() {
        CindermapStore store = Check.drawn("1111", "...1", "..11");
        store.rule('w', 0, 0);
        isSound(store, "with w and two arms", true);
        for (int place : new int[] {1, 2, 3, 11, 19}) {
            Check.set(store, place, 0);
        }
        isSound(store, "with w broken at the ends of the arms", false);
    }

    private static void versionsLeadToTheMap() {
        for (int spot : new int[] {0, 63, 191, 192, 303}) {
            CindermapStore store = new CindermapStore();
            Check.mapOf(store)[spot] = 1;
            isSound(store, "with the spot " + spot + " set, without a version", false);
            Check.mapOf(store)[spot] = 0;
            isSound(store, "with the spot " + spot + " set back", true);
            CindermapStore later = Check.drawn("9");
            Check.mapOf(later)[spot] = 2;
            isSound(later, "with the spot " + spot + " set, behind a version", false);
        }
    }

    private static void keptTilesAreRight() {
        CindermapStore full = Check.drawn("12345678", "1.1.1.1.", "87654321", "99999999", "1111", "2222", "1212", ".......7");
        for (int scale = 1; scale <= 8; scale *= 2) {
            for (int y = 0; y < 8 / scale; y++) {
                for (int x = 0; x < 8 / scale; x++) {
                    full.tile(scale, 0, x, y);
                }
            }
        }
        isSound(full, "with all tiles of a layer", true);
        int[][] told = {{1, 0}, {1, 63}, {2, 64}, {2, 79}, {4, 80}, {4, 83}, {8, 84}};
        for (int layer = 0; layer < 3; layer++) {
            for (int[] row : told) {
                CindermapStore store = new CindermapStore();
                int last = row[1] == 0 || row[1] == 64 || row[1] == 80 ? 0 : 8 / row[0] - 1;
                store.tile(row[0], layer, last, last);
                int[] areas = (int[]) Check.get(Check.get(store, "tiles"), "areas");
                isSound(store, "with a tile of scale " + row[0], true);
                areas[85 * layer + row[1]] = 8;
                isSound(store, "with a wrong tile of scale " + row[0] + " in layer " + layer, false);
            }
        }
    }

    private static void noIdleEdits() {
        for (int branch = 0; branch < 4; branch++) {
            for (int spot : new int[] {0, 303}) {
                CindermapStore store = new CindermapStore();
                for (int number = 0; number < 4; number++) {
                    store.open();
                }
                Object opened = ((Object[]) Check.get(store, "branches"))[branch];
                ((int[]) Check.get(opened, "edit"))[spot] = 0;
                isSound(store, "with an edit of branch " + branch + " to what it saw", false);
                store.drop(branch);
                isSound(store, "with that branch closed", true);
            }
        }
    }

    private static void soundAsItIsUsed() {
        CindermapStore store = new CindermapStore();
        store.open();
        store.paint(0, 0, 0, 0, 1);
        store.tile(8, 0, 0, 0);
        store.tile(1, 0, 0, 0);
        Check.bring(store, 0, 0, 0, 2);
        isSound(store, "with a conflict", true);
        store.tile(1, 0, 0, 0);
        store.undo();
        isSound(store, "behind an undo", true);
        store.tile(1, 0, 0, 0);
        store.merge(0);
        isSound(store, "behind a merge", true);
        String before = Check.picture(store);
        store.isSound();
        Check.is("the state behind isSound()", Check.picture(store), before);
    }
}
