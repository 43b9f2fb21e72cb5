import java.util.function.Consumer;

/** Promises 33 to 36: shares, means, the checksum and whether all is sound. */
public final class SumTest {
    public static void main(String[] args) {
        sharesOfPlaces();
        meansOfAreas();
        theChecksumGoesOverAll();
        anObjectInUseIsSound();
        aSpoiledObjectIsNotSound();
        aMapAgainstARuleIsNotSound();
        Check.end();
    }

    private static void sharesOfPlaces() {
        CindermapStore x = Check.drawn("123", ".9");
        Check.is("fullShare(0)", x.fullShare(0), 4.0f / 64.0f);
        Check.is("fullShare(1)", x.fullShare(1), 0.0f);
        x.open();
        for (int place = 0; place < 64; place++) {
            x.paint(0, 2, place % 8, place / 8, 1 + place % 9);
        }
        x.merge(0);
        Check.is("fullShare(2)", x.fullShare(2), 1.0f);
        Check.fails("fullShare(3)", Check.ARGUMENT, x, () -> x.fullShare(3));
        Check.fails("fullShare(-1)", Check.ARGUMENT, x, () -> x.fullShare(-1));
    }

    private static void meansOfAreas() {
        CindermapStore x = Check.drawn("1199", "119", "......2");
        Check.is("meanSize(0)", x.meanSize(0), 8.0 / 3.0);
        Check.fails("meanSize(1)", ArithmeticException.class, x, () -> x.meanSize(1));
        Check.fails("meanSize(3)", Check.ARGUMENT, x, () -> x.meanSize(3));
        Check.fails("meanSize(-1)", Check.ARGUMENT, x, () -> x.meanSize(-1));
        Check.bring(x, 1, 7, 7, 9);
        Check.is("meanSize(1)", x.meanSize(1), 1.0);
    }

    private static void theChecksumGoesOverAll() {
        CindermapStore x = new CindermapStore();
        Check.is("checksum() of an empty map", x.checksum(), SumEdges.sumOf(0));
        x.open();
        x.paint(0, 0, 0, 0, 9);
        x.paint(0, 2, 7, 7, 3);
        x.road(0, 0, 0, false, true);
        x.road(0, 7, 6, true, true);
        x.merge(0);
        Check.is("checksum()", x.checksum(),
            SumEdges.sumOf(1, new int[] {0, 9}, new int[] {191, 3}, new int[] {192, 1}, new int[] {303, 1}));
        x.undo();
        Check.is("checksum() after undo()", x.checksum(), SumEdges.sumOf(2));
    }

    /** An object with all that can be unsound: rules, versions, tiles and a branch. */
    private static CindermapStore inUse() {
        CindermapStore x = new CindermapStore();
        Check.bring(x, 0, 0, 0, 4);
        Check.bring(x, 1, 0, 0, 2);
        x.undo();
        x.rule('x', 0, 1);
        x.tile(1, 0, 0, 0);
        x.tile(2, 0, 3, 3);
        x.tile(4, 2, 1, 1);
        x.tile(8, 1, 0, 0);
        x.open();
        x.paint(0, 0, 0, 0, 5);
        Check.bring(x, 0, 0, 0, 6);
        return x;
    }

    private static void anObjectInUseIsSound() {
        CindermapStore x = inUse();
        String before = Check.picture(x);
        Check.is("isSound()", x.isSound(), true);
        Check.is("the state after isSound()", Check.picture(x), before);
        Check.is("isSound() again", x.isSound(), true);
    }

    /** The promise can't be seen broken from outside, so these tests spoil the private state. */
    private static void aSpoiledObjectIsNotSound() {
        spoiled("the map", x -> Check.mapOf(x)[303] = 1);
        spoiled("the map of a place without tiles", x -> Check.mapOf(x)[70] = 3);
        spoiled("a tile of scale 1", x -> spoilTile(x, 0, 0));
        spoiled("a tile of scale 2", x -> spoilTile(x, 0, 79));
        spoiled("a tile of scale 4", x -> spoilTile(x, 2, 83));
        spoiled("a tile of scale 8", x -> spoilTile(x, 1, 84));
        for (int spot : new int[] {0, 9, 303}) {
            spoiled("an edit", x -> branchRow(x, "edit")[spot] = branchRow(x, "base")[spot]);
        }
    }

    private static void spoiled(String what, Consumer<CindermapStore> spoil) {
        CindermapStore x = inUse();
        spoil.accept(x);
        Check.is("isSound() with " + what + " spoiled", x.isSound(), false);
    }

    private static void spoilTile(CindermapStore x, int layer, int slot) {
        ((int[]) Check.get(Check.get(x, "tiles"), "areas"))[85 * layer + slot] = 8;
    }

    private static int[] branchRow(CindermapStore x, String name) {
        return (int[]) Check.get(((Object[]) Check.get(x, "branches"))[0], name);
    }

    private static void aMapAgainstARuleIsNotSound() {
        against('c', 64, "1", "");
        against('c', 1, "1", "");
        against('x', 64, "1", "1");
        against('x', 65, "1", "");
        against('g', 8, ".1");
        against('g', 1, "", "1");
        against('g', 27, "", "...1", "..1.1");
        against('g', 18, "", "...1", "....1", "...1");
        against('g', 62, "", "", "", "", "", "", ".......1", "");
        against('w', 2, "11", "");
        against('w', 2, "1", "");
        against('w', 8, "1.1", "1.1", "1.1", "111");
        against('w', 10, "111", "..1", ".11");
        against('w', 54, "", "", "", "", "", "", "......22", "......2.");
        against('m', 248 + 27, "");
        against('m', 192 + 22, "");
        against('m', 192 + 21, "");
    }

    /**
     * Draws a map that keeps the rule; then changes a spot in the map and in its version alike, and
     * looks whether the pairs of places tell just what the rule tells of the same map without it.
     */
    private static void against(char kind, int spot, String... rows) {
        for (int value = 0; value <= (spot < 192 ? 2 : 1); value++) {
            CindermapStore ruled = painted(kind, rows);
            CindermapStore free = painted(kind, rows);
            Check.is("whether " + kind + " is taken at first", takesRule(ruled, kind), true);
            Check.set(ruled, spot, value);
            Check.set(free, spot, value);
            Check.is("isSound() with " + kind + " and " + value + " at " + spot, ruled.isSound(),
                takesRule(free, kind));
        }
    }

    /** Draws layer 0, and layer 1 like it for c; layer 2 sees to it that there is a version. */
    private static CindermapStore painted(char kind, String... rows) {
        CindermapStore x = new CindermapStore();
        int branch = x.open();
        Check.draw(x, branch, 0, rows);
        if (kind == 'c') {
            Check.draw(x, branch, 1, rows);
        }
        x.paint(branch, 2, 0, 0, 1);
        x.merge(branch);
        return x;
    }

    private static boolean takesRule(CindermapStore x, char kind) {
        try {
            x.rule(kind, 0, 1);
            return true;
        } catch (UnsupportedOperationException e) {
            return false;
        }
    }
}
