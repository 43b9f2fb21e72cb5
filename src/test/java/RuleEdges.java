/** Boundary cases of promises 2 and 12: which rules are taken, and what each kind forbids. */
final class RuleEdges {
    private static final String FULL = "99999999";
    private static final String KINDS = "cxgwm";

    private RuleEdges() {
    }

    static void run() {
        Edge.of(2, "At most 6 rules are numbered from 0, each of a kind:", RuleEdges::sixRules);
        Edge.of(12, "'c', each place with an area in the first layer has one in the second;", RuleEdges::coveredPlaces);
        Edge.of(12, "'x', no place has areas in both;", RuleEdges::placesOfBoth);
        Edge.of(12, "'g', no place of the first layer is without an area if all places beside it, right, left, above"
            + " and below as far as there are, have areas;", RuleEdges::gaps);
        Edge.of(12, "'w', the places of each area of the first layer hang together;", RuleEdges::wholeAreas);
        Edge.of(12, "'m', no place has just one road, other than at the edge of the map.", RuleEdges::singleRoads);
        Edge.of(2, "A rule that the map does not keep is refused.", RuleEdges::aRefusedRuleIsNone);
        Edge.of(2, "Returns its number.", RuleEdges::theNumberIsThatOfBreaks);
        Edge.of(2, "Throws `IllegalArgumentException` if there is no such kind", RuleEdges::kinds);
        Edge.of(2, "or a layer that has a meaning is out of range,", RuleEdges::layersWithAMeaning);
        Edge.of(2, "or both have one and are the same", RuleEdges::likeLayers);
        Edge.of(2, "Throws `UnsupportedOperationException` if the map does not keep it", RuleEdges::brokenAtOnce);
        Edge.of(2, "Throws `IllegalStateException` if there are 6", RuleEdges::aSeventhRule);
        Edge.of(12, "Returns the first rule that the map would break, were the edits of a branch brought to it,",
            RuleEdges::theFirstOfAllRules);
        Edge.of(12, "whatever conflicts there are.", RuleEdges::conflictsDoNotMatter);
        Edge.of(12, "Returns the rule, -1 for none.", RuleEdges::noneIsBroken);
        Edge.of(12, "Throws `IndexOutOfBoundsException` if there is no such branch",
            () -> Edge.noSuchBranch("breaks", CindermapStore::breaks));
    }

    private static void sixRules() {
        CindermapStore store = new CindermapStore();
        for (int number = 0; number < 6; number++) {
            Check.is("rule " + number, store.rule(KINDS.charAt(number % 5), 0, 1), number);
        }
        for (int kind = 0; kind < 5; kind++) {
            char refused = KINDS.charAt(kind);
            Check.fails("a seventh rule " + refused, Check.STATE, store, () -> store.rule(refused, 0, 1));
        }
    }

    private static void aSeventhRule() {
        CindermapStore store = new CindermapStore();
        for (int number = 0; number < 6; number++) {
            Check.is("rule " + number + ", told like the others", store.rule('w', 2, 0), number);
        }
        Check.fails("a rule with 6", Check.STATE, store, () -> store.rule('w', 2, 0));
        Check.fails("another one with 6", Check.STATE, store, () -> store.rule('x', 0, 2));
    }

    /** An object with one rule, and a branch that draws the first layers so. */
    private static CindermapStore ruled(char kind, int first, int second) {
        CindermapStore store = new CindermapStore();
        store.rule(kind, first, second);
        store.open();
        return store;
    }

    private static void breaksIs(CindermapStore store, String told, int due) {
        Check.is("breaks(0) with " + told, store.breaks(0), due);
    }

    private static void coveredPlaces() {
        for (int place : new int[] {0, 7, 8, 56, 63}) {
            CindermapStore store = ruled('c', 1, 2);
            int x = place % 8;
            int y = place / 8;
            store.paint(0, 2, x, y, 1);
            breaksIs(store, "the second layer alone at " + place, -1);
            store.paint(0, 1, x, y, 9);
            breaksIs(store, "both at " + place, -1);
            store.paint(0, 2, x, y, 0);
            breaksIs(store, "the first layer alone at " + place, 0);
            store.paint(0, 0, x, y, 1);
            breaksIs(store, "the first layer and a third at " + place, 0);
        }
    }

    private static void placesOfBoth() {
        for (int place : new int[] {0, 7, 8, 56, 63}) {
            CindermapStore store = ruled('x', 1, 2);
            int x = place % 8;
            int y = place / 8;
            store.paint(0, 0, x, y, 1);
            store.paint(0, 1, x, y, 1);
            breaksIs(store, "the first layer and a third at " + place, -1);
            store.paint(0, 2, x, y, 9);
            breaksIs(store, "both at " + place, 0);
            store.paint(0, 1, x, y, 0);
            breaksIs(store, "the second layer alone at " + place, -1);
        }
    }

    /** Takes each place out of a full layer, and each place beside it as well. */
    private static void gaps() {
        CindermapStore store = Check.drawn(FULL, FULL, FULL, FULL, FULL, FULL, FULL, FULL);
        store.rule('g', 0, 1);
        store.open();
        breaksIs(store, "no gap", -1);
        for (int place = 0; place < 64; place++) {
            store.paint(0, 0, place % 8, place / 8, 0);
            breaksIs(store, "a gap at " + place, 0);
            store.paint(0, 0, place % 8, place / 8, 9);
        }
        int[][] open = {{0, 1}, {0, 8}, {7, 6}, {7, 15}, {56, 48}, {56, 57}, {63, 62}, {63, 55}, {27, 26}, {27, 28},
            {27, 19}, {27, 35}};
        for (int[] pair : open) {
            for (int place : pair) {
                store.paint(0, 0, place % 8, place / 8, 0);
            }
            breaksIs(store, "a gap over " + pair[0] + " and " + pair[1], -1);
            for (int place : pair) {
                store.paint(0, 0, place % 8, place / 8, 9);
            }
        }
        int[][] apart = {{0, 9}, {27, 36}, {27, 29}, {0, 63}, {8, 6, 7}, {7, 8, 16}};
        for (int[] gaps : apart) {
            for (int place : gaps) {
                store.paint(0, 0, place % 8, place / 8, 0);
            }
            breaksIs(store, "a gap at " + gaps[0] + " and others apart from it", 0);
            for (int place : gaps) {
                store.paint(0, 0, place % 8, place / 8, 9);
            }
        }
    }

    private static void area(int due, String told, String... rows) {
        CindermapStore store = ruled('w', 0, 1);
        Check.draw(store, 0, 0, rows);
        breaksIs(store, told, due);
    }

    private static void wholeAreas() {
        area(-1, "no area");
        area(-1, "places without an area apart", "...5", "...5", "...5", "...5", "...5", "...5", "...5", "...5");
        area(-1, "one place", "1");
        area(-1, "nine areas of a place", "12345678", "9");
        area(-1, "a row", "11111111");
        area(0, "a row with a gap", "111.1111");
        area(0, "two places of a corner", "1", ".1");
        area(0, "a row's end and the next one's start", ".......1", "1");
        area(0, "a row's end and the next one's start, which hangs on the first place", "1......1", "1");
        area(0, "two corners", "9", "", "", "", "", "", "", ".......9");
        area(0, "the last area in parts", "1111", "9.9");
        area(-1, "a snake", "11111111", ".......1", "11111111", "1", "11111111", ".......1", "11111111", "1");
        area(0, "a cut snake", "11111111", ".......1", "11111111", "1", "1111.111", ".......1", "11111111", "1");
        area(-1, "a whole layer", FULL, FULL, FULL, FULL, FULL, FULL, FULL, FULL);
        area(-1, "a ring", "111", "1.1", "111");
        CindermapStore other = ruled('w', 1, 0);
        Check.draw(other, 0, 0, "1.1");
        breaksIs(other, "another layer in parts", -1);
    }

    private static void singleRoads() {
        for (int place = 0; place < 64; place++) {
            int x = place % 8;
            int y = place / 8;
            boolean isInside = x > 0 && x < 7 && y > 0 && y < 7;
            boolean isNextInside = x + 1 < 7 && y > 0 && y < 7;
            if (x < 7) {
                CindermapStore store = ruled('m', 0, 0);
                store.road(0, x, y, false, true);
                breaksIs(store, "one road right of " + place, isInside || isNextInside ? 0 : -1);
            }
            boolean isBelowInside = y + 1 < 7 && x > 0 && x < 7;
            if (y < 7) {
                CindermapStore store = ruled('m', 0, 0);
                store.road(0, x, y, true, true);
                breaksIs(store, "one road down from " + place, isInside || isBelowInside ? 0 : -1);
            }
        }
        CindermapStore store = ruled('m', 0, 0);
        store.road(0, 0, 1, false, true);
        store.road(0, 1, 0, true, true);
        breaksIs(store, "two roads at (1, 1)", -1);
        store.road(0, 1, 1, false, true);
        breaksIs(store, "three roads at (1, 1), one right of it", 0);
        store.road(0, 2, 0, true, true);
        breaksIs(store, "three roads at (1, 1), two right of it", -1);
        store.road(0, 1, 1, true, true);
        breaksIs(store, "four roads at (1, 1), one below it", 0);
        store.road(0, 0, 2, false, true);
        breaksIs(store, "four roads at (1, 1), two at the places beside it", -1);
    }

    private static void aRefusedRuleIsNone() {
        CindermapStore store = Check.drawn("1.1");
        Check.fails("rule(w, 0, 0)", Check.UNSUPPORTED, store, () -> store.rule('w', 0, 0));
        Check.bring(store, 0, 5, 5, 1);
        Check.is("the number behind a refused rule", store.rule('g', 0, 0), 0);
        Check.is("isSound()", store.isSound(), true);
    }

    private static void theNumberIsThatOfBreaks() {
        CindermapStore store = new CindermapStore();
        store.open();
        store.paint(0, 2, 3, 3, 1);
        for (int number = 0; number < 5; number++) {
            Check.is("rule(m, 0, 0)", store.rule('m', 0, 0), number);
        }
        Check.is("rule(c, 2, 1)", store.rule('c', 2, 1), 5);
        breaksIs(store, "the last rule broken", 5);
    }

    private static void kinds() {
        CindermapStore store = new CindermapStore();
        for (int sign = 0; sign < 256; sign++) {
            char kind = (char) sign;
            if (KINDS.indexOf(kind) < 0) {
                Check.fails("the kind " + sign, Check.ARGUMENT, store, () -> store.rule(kind, 0, 1));
            }
        }
        for (int sign : new int[] {'c' + 256, 'x' + 65536 - 256, 65535}) {
            Check.fails("the kind " + sign, Check.ARGUMENT, store, () -> store.rule((char) sign, 0, 1));
        }
        for (int number = 0; number < 5; number++) {
            Check.is("the kind " + KINDS.charAt(number), store.rule(KINDS.charAt(number), 0, 1), number);
        }
    }

    private static void layersWithAMeaning() {
        for (int kind = 0; kind < 4; kind++) {
            char told = KINDS.charAt(kind);
            CindermapStore store = new CindermapStore();
            Edge.range("the first layer of " + told, Check.ARGUMENT, store, 0, 2,
                first -> store.rule(told, first, first == 0 ? 1 : 0));
        }
        for (int kind = 0; kind < 2; kind++) {
            char told = KINDS.charAt(kind);
            CindermapStore store = new CindermapStore();
            Edge.range("the second layer of " + told, Check.ARGUMENT, store, 0, 2,
                second -> store.rule(told, second == 0 ? 1 : 0, second));
        }
        CindermapStore free = new CindermapStore();
        int number = 0;
        for (int layer : new int[] {-1, 3, Integer.MIN_VALUE, Integer.MAX_VALUE}) {
            Check.is("rule(m, " + layer + ", " + layer + ")", free.rule('m', layer, layer), number++);
        }
        Check.is("rule(g, 2, -1)", free.rule('g', 2, -1), 4);
        Check.is("rule(w, 2, 3)", free.rule('w', 2, 3), 5);
    }

    private static void likeLayers() {
        CindermapStore store = new CindermapStore();
        for (int number = 0; number < 3; number++) {
            int layer = number;
            Check.fails("rule(c) of one layer", Check.ARGUMENT, store, () -> store.rule('c', layer, layer));
            Check.fails("rule(x) of one layer", Check.ARGUMENT, store, () -> store.rule('x', layer, layer));
        }
        Check.is("rule(g, 0, 0)", store.rule('g', 0, 0), 0);
        Check.is("rule(w, 2, 2)", store.rule('w', 2, 2), 1);
        Check.is("rule(m, 1, 1)", store.rule('m', 1, 1), 2);
    }

    private static void brokenAtOnce() {
        CindermapStore store = Check.drawn("1.1", ".1");
        Check.fails("rule(c, 0, 1)", Check.UNSUPPORTED, store, () -> store.rule('c', 0, 1));
        Check.fails("rule(w, 0, 1)", Check.UNSUPPORTED, store, () -> store.rule('w', 0, 1));
        Check.is("rule(c, 1, 0)", store.rule('c', 1, 0), 0);
        Check.is("rule(w, 1, 0)", store.rule('w', 1, 0), 1);
        Check.is("rule(g, 0, 1), open to the row's start", Check.drawn("1.1").rule('g', 0, 1), 0);
        Check.fails("rule(g, 0, 1)", Check.UNSUPPORTED, store, () -> store.rule('g', 0, 1));
        int branch = store.open();
        store.paint(branch, 2, 2, 0, 9);
        store.road(branch, 5, 5, false, true);
        store.merge(branch);
        Check.fails("rule(x, 0, 2)", Check.UNSUPPORTED, store, () -> store.rule('x', 0, 2));
        Check.fails("rule(x, 2, 0)", Check.UNSUPPORTED, store, () -> store.rule('x', 2, 0));
        Check.fails("rule(m, 0, 0)", Check.UNSUPPORTED, store, () -> store.rule('m', 0, 0));
        store.undo();
        Check.is("rule(x, 0, 2) with the place empty again", store.rule('x', 0, 2), 2);
    }

    private static void theFirstOfAllRules() {
        CindermapStore store = new CindermapStore();
        store.open();
        store.open();
        store.rule('m', 0, 0);
        store.rule('x', 0, 1);
        store.rule('c', 0, 2);
        store.rule('c', 2, 1);
        store.rule('w', 2, 0);
        store.rule('g', 2, 0);
        Check.draw(store, 0, 2, ".7");
        store.paint(0, 2, 0, 1, 8);
        Check.draw(store, 0, 1, ".1", "1");
        breaksIs(store, "the last rule broken", 5);
        store.paint(0, 2, 0, 1, 7);
        breaksIs(store, "the last two", 4);
        store.paint(0, 1, 0, 1, 0);
        breaksIs(store, "the last three", 3);
        store.paint(0, 0, 7, 7, 2);
        breaksIs(store, "the last four", 2);
        store.paint(0, 0, 1, 0, 2);
        breaksIs(store, "the last five", 1);
        store.road(0, 3, 3, true, true);
        breaksIs(store, "all", 0);
        Check.is("breaks(1)", store.breaks(1), -1);
    }

    private static void conflictsDoNotMatter() {
        CindermapStore store = new CindermapStore();
        store.rule('x', 0, 1);
        store.open();
        store.paint(0, 0, 0, 0, 5);
        Check.bring(store, 0, 0, 0, 6);
        Check.is("conflicts(0)", store.conflicts(0), 1);
        breaksIs(store, "a conflict", -1);
        store.paint(0, 1, 0, 0, 5);
        breaksIs(store, "a conflict and the rule broken by both edits", 0);
        store.paint(0, 0, 0, 0, 0);
        breaksIs(store, "the rule broken by an edit and the map by now", 0);
        store.undo();
        breaksIs(store, "the map back", -1);
    }

    private static void noneIsBroken() {
        CindermapStore store = Check.drawn("1.1");
        store.open();
        breaksIs(store, "no rules and no edits", -1);
        store.paint(0, 0, 5, 5, 1);
        breaksIs(store, "no rules", -1);
        store.rule('x', 0, 1);
        breaksIs(store, "a rule that is kept", -1);
        store.paint(0, 1, 0, 0, 1);
        breaksIs(store, "the first rule broken", 0);
    }
}
