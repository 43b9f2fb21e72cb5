/** Promises 2 and 12: the kinds of rules, what each forbids, and which is the first broken. */
public final class RuleTest {
    public static void main(String[] args) {
        rulesAreNumbered();
        wrongRulesAreRefused();
        aRuleThatTheMapDoesNotKeepIsRefused();
        theListedExceptionsComeInOrder();
        eachAreaNeedsOneBelow();
        noPlaceHasBoth();
        noGapIsEnclosed();
        areasHangTogether();
        noPlaceHasJustOneRoad();
        breaksTellsTheFirstRule();
        Check.end();
    }

    private static void rulesAreNumbered() {
        CindermapStore x = new CindermapStore();
        Check.is("rule(c, 0, 1)", x.rule('c', 0, 1), 0);
        Check.is("rule(x, 2, 0)", x.rule('x', 2, 0), 1);
        Check.is("rule(g, 2, 77)", x.rule('g', 2, 77), 2);
        Check.is("rule(w, 0, -1)", x.rule('w', 0, -1), 3);
        Check.is("rule(m, -5, 900)", x.rule('m', -5, 900), 4);
        Check.is("rule(w, 0, 0), told twice", x.rule('w', 0, 0), 5);
        Check.fails("a seventh rule", Check.STATE, x, () -> x.rule('m', 0, 0));
        Check.is("isSound()", x.isSound(), true);
    }

    private static void wrongRulesAreRefused() {
        CindermapStore x = new CindermapStore();
        for (char kind : new char[] {'a', 'C', 0, 'n', (char) 65535}) {
            Check.fails("rule(" + (int) kind + ", 0, 1)", Check.ARGUMENT, x, () -> x.rule(kind, 0, 1));
        }
        for (char kind : new char[] {'c', 'x'}) {
            Check.fails("rule(" + kind + ", 3, 0)", Check.ARGUMENT, x, () -> x.rule(kind, 3, 0));
            Check.fails("rule(" + kind + ", -1, 0)", Check.ARGUMENT, x, () -> x.rule(kind, -1, 0));
            Check.fails("rule(" + kind + ", 0, 3)", Check.ARGUMENT, x, () -> x.rule(kind, 0, 3));
            Check.fails("rule(" + kind + ", 0, -1)", Check.ARGUMENT, x, () -> x.rule(kind, 0, -1));
            Check.fails("rule(" + kind + ", 2, 2)", Check.ARGUMENT, x, () -> x.rule(kind, 2, 2));
        }
        for (char kind : new char[] {'g', 'w'}) {
            Check.fails("rule(" + kind + ", 3, 0)", Check.ARGUMENT, x, () -> x.rule(kind, 3, 0));
            Check.fails("rule(" + kind + ", -1, 0)", Check.ARGUMENT, x, () -> x.rule(kind, -1, 0));
            Check.is("rule(" + kind + ", 1, 1)", x.rule(kind, 1, 1), kind == 'g' ? 0 : 1);
        }
    }

    private static void aRuleThatTheMapDoesNotKeepIsRefused() {
        CindermapStore x = Check.drawn("111", "101", "111", "....2.2");
        Check.fails("rule(c, 0, 1)", Check.UNSUPPORTED, x, () -> x.rule('c', 0, 1));
        Check.fails("rule(g, 0, 0)", Check.UNSUPPORTED, x, () -> x.rule('g', 0, 0));
        Check.fails("rule(w, 0, 0)", Check.UNSUPPORTED, x, () -> x.rule('w', 0, 0));
        Check.is("rule(c, 1, 0)", x.rule('c', 1, 0), 0);
        Check.bring(x, 1, 0, 0, 9);
        Check.fails("rule(x, 0, 1)", Check.UNSUPPORTED, x, () -> x.rule('x', 0, 1));
        Check.fails("rule(x, 1, 0)", Check.UNSUPPORTED, x, () -> x.rule('x', 1, 0));
        Check.is("rule(x, 1, 2)", x.rule('x', 1, 2), 1);
        int branch = x.open();
        x.road(branch, 1, 1, true, true);
        x.merge(branch);
        Check.fails("rule(m, 0, 0)", Check.UNSUPPORTED, x, () -> x.rule('m', 0, 0));
    }

    private static void theListedExceptionsComeInOrder() {
        CindermapStore x = Check.drawn("1");
        for (int number = 0; number < 6; number++) {
            Check.is("rule(m, 0, 0)", x.rule('m', 0, 0), number);
        }
        Check.fails("rule(c, 0, 0) with 6", Check.ARGUMENT, x, () -> x.rule('c', 0, 0));
        Check.fails("rule(c, 0, 1) with 6, broken", Check.UNSUPPORTED, x, () -> x.rule('c', 0, 1));
        Check.fails("rule(c, 1, 0) with 6", Check.STATE, x, () -> x.rule('c', 1, 0));
    }

    private static void breaksIs(CindermapStore x, String told, int want) {
        Check.is("breaks(0) with " + told, x.breaks(0), want);
    }

    private static CindermapStore ruled(char kind, int first, int second) {
        CindermapStore x = new CindermapStore();
        x.rule(kind, first, second);
        x.open();
        return x;
    }

    private static void eachAreaNeedsOneBelow() {
        CindermapStore x = ruled('c', 2, 0);
        breaksIs(x, "nothing", -1);
        x.paint(0, 0, 7, 7, 3);
        breaksIs(x, "the second layer alone", -1);
        x.paint(0, 2, 7, 7, 5);
        breaksIs(x, "both layers", -1);
        x.paint(0, 2, 0, 7, 5);
        breaksIs(x, "the first layer alone at (0, 7)", 0);
        x.paint(0, 1, 0, 7, 5);
        breaksIs(x, "a third layer there", 0);
    }

    private static void noPlaceHasBoth() {
        CindermapStore x = ruled('x', 2, 0);
        x.paint(0, 0, 7, 7, 3);
        x.paint(0, 1, 7, 7, 3);
        x.paint(0, 2, 6, 7, 3);
        breaksIs(x, "areas apart", -1);
        x.paint(0, 2, 7, 7, 4);
        breaksIs(x, "areas in both", 0);
    }

    private static void noGapIsEnclosed() {
        gap("an enclosed corner", 0, ".2", "3");
        gap("a filled corner", -1, "92", "3");
        gap("a corner open to the right", -1, "..", "3");
        gap("a corner open below", -1, ".2", "");
        gap("an enclosed place inside", 0, "", "...1", "..2.4", "...3");
        gap("one open above", -1, "", "....", "..2.4", "...3");
        gap("one open to the right", -1, "", "...1", "..2..", "...3");
        gap("one open to the left", -1, "", "...1", "....4", "...3");
        gap("one open below", -1, "", "...1", "..2.4", "....");
        gap("an enclosed place at the left edge", 0, "", "", "", "", "", "7", ".8", "7");
        gap("one open to the right", -1, "", "", "", "", "", "7", "", "7");
        gap("the last corner enclosed", 0, "", "", "", "", "", "", ".......5", "......6.");
        gap("the last corner half enclosed", -1, "", "", "", "", "", "", ".......5", "");
        CindermapStore x = ruled('g', 1, 1);
        Check.draw(x, 0, 0, ".2", "3");
        breaksIs(x, "a gap in another layer", -1);
    }

    private static void gap(String told, int want, String... rows) {
        CindermapStore x = ruled('g', 1, 1);
        Check.draw(x, 0, 1, rows);
        breaksIs(x, told, want);
    }

    private static void areasHangTogether() {
        CindermapStore x = ruled('w', 0, 9);
        Check.draw(x, 0, 0, "1112", "..1", "111", "1");
        breaksIs(x, "two areas whole", -1);
        x.paint(0, 0, 0, 4, 2);
        breaksIs(x, "an area in two parts", 0);
        x.paint(0, 0, 0, 4, 0);
        x.paint(0, 0, 2, 1, 4);
        breaksIs(x, "an area cut by another", 0);
        x.paint(0, 0, 2, 1, 1);
        x.paint(0, 0, 7, 0, 5);
        x.paint(0, 0, 0, 1, 6);
        breaksIs(x, "more areas of one place", -1);
        x.paint(0, 0, 6, 1, 5);
        breaksIs(x, "places that touch by a corner alone", 0);
        x.paint(0, 0, 6, 1, 0);
        x.paint(0, 0, 0, 1, 5);
        breaksIs(x, "places of the row's end and the next one's start", 0);
        x.paint(0, 0, 0, 1, 0);
        Check.draw(x, 0, 1, "3.3");
        breaksIs(x, "another layer in parts", -1);
        for (int area = 1; area <= 9; area++) {
            CindermapStore y = ruled('w', 1, 0);
            Check.draw(y, 0, 1, "", "." + area + "." + area);
            breaksIs(y, "two parts of area " + area, 0);
            y.paint(0, 1, 2, 1, area);
            breaksIs(y, "the parts of area " + area + " joined", -1);
        }
    }

    private static void noPlaceHasJustOneRoad() {
        CindermapStore x = ruled('m', 0, 0);
        x.road(0, 0, 0, false, true);
        x.road(0, 7, 6, true, true);
        breaksIs(x, "roads along the edge", -1);
        x.road(0, 0, 3, false, true);
        breaksIs(x, "a road in from the left", 0);
        x.road(0, 1, 3, true, true);
        breaksIs(x, "two roads inside", 0);
        x.road(0, 0, 4, false, true);
        breaksIs(x, "a way in and out", -1);
        x.road(0, 6, 6, true, true);
        breaksIs(x, "a road to the edge below", 0);
        x.road(0, 6, 6, false, true);
        breaksIs(x, "a way round the corner", -1);
        x.road(0, 3, 0, true, true);
        breaksIs(x, "a road in from above", 0);
        x.road(0, 3, 0, true, false);
        Check.is("edits(0)", x.edits(0), 7);
        breaksIs(x, "that road gone", -1);
        x.road(0, 2, 5, false, true);
        breaksIs(x, "a road between two places inside", 0);
    }

    private static void breaksTellsTheFirstRule() {
        CindermapStore x = new CindermapStore();
        x.rule('x', 0, 1);
        x.rule('c', 1, 2);
        x.rule('m', 0, 0);
        x.open();
        x.open();
        x.road(0, 3, 3, true, true);
        breaksIs(x, "a broken road rule", 2);
        x.paint(0, 1, 0, 0, 5);
        breaksIs(x, "a broken c as well", 1);
        Check.bring(x, 0, 0, 0, 3);
        breaksIs(x, "a map that has changed since", 0);
        Check.is("breaks(1)", x.breaks(1), -1);
        x.paint(0, 0, 0, 0, 9);
        Check.is("conflicts(0)", x.conflicts(0), 1);
        breaksIs(x, "a conflict", 0);
        Check.fails("breaks(2)", Check.INDEX, x, () -> x.breaks(2));
        Check.fails("breaks(-1)", Check.INDEX, x, () -> x.breaks(-1));
        Check.fails("breaks(4)", Check.INDEX, x, () -> x.breaks(4));
    }
}
