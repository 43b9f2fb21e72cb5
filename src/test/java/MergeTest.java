/** Promises 13 to 15: merges, undoing them, and the versions that both make. */
public final class MergeTest {
    public static void main(String[] args) {
        aMergeBringsTheEdits();
        aMergeThatChangesNothingIsNoVersion();
        aMergeNeedsNoConflictAndKeepsTheRules();
        undoBringsBackWhole();
        undoKeepsTheRules();
        thereAreFortyVersions();
        Check.end();
    }

    private static void aMergeBringsTheEdits() {
        CindermapStore x = new CindermapStore();
        x.open();
        x.open();
        x.paint(0, 0, 1, 2, 3);
        x.paint(0, 2, 1, 2, 4);
        x.road(0, 1, 2, false, true);
        x.paint(1, 0, 1, 2, 3);
        x.paint(1, 1, 0, 0, 5);
        Check.is("merge(0)", x.merge(0), 3);
        Check.is("version()", x.version(), 1);
        Check.fails("edits(0), closed", Check.INDEX, x, () -> x.edits(0));
        Check.is("value(17, 1)", x.value(17, 1), 3);
        Check.is("value(145, 1)", x.value(145, 1), 4);
        Check.is("value(207, 1)", x.value(207, 1), 1);
        Check.is("merge(1), one spot of which is so", x.merge(1), 1);
        Check.is("version()", x.version(), 2);
        Check.fails("merge(1), closed", Check.INDEX, x, () -> x.merge(1));
        Check.fails("merge(4)", Check.INDEX, x, () -> x.merge(4));
        Check.fails("merge(-1)", Check.INDEX, x, () -> x.merge(-1));
    }

    private static void aMergeThatChangesNothingIsNoVersion() {
        CindermapStore x = new CindermapStore();
        x.open();
        Check.is("merge(0) without edits", x.merge(0), 0);
        Check.fails("edits(0), closed", Check.INDEX, x, () -> x.edits(0));
        Check.fails("undo() with nothing to undo", Check.NO_ELEMENT, x, x::undo);
        x.open();
        x.paint(0, 0, 0, 0, 4);
        Check.bring(x, 0, 0, 0, 4);
        Check.is("merge(0) of what the map has", x.merge(0), 0);
        Check.is("version()", x.version(), 1);
        Check.is("undo()", x.undo(), 1);
        Check.fails("undo() again", Check.NO_ELEMENT, x, x::undo);
        Check.is("version()", x.version(), 2);
    }

    private static void aMergeNeedsNoConflictAndKeepsTheRules() {
        CindermapStore x = new CindermapStore();
        x.rule('w', 0, 0);
        x.open();
        x.paint(0, 0, 0, 0, 7);
        Check.bring(x, 0, 0, 0, 5);
        Check.fails("merge(0) with a conflict", Check.UNSUPPORTED, x, () -> x.merge(0));
        x.settle(0, 0, true);
        x.paint(0, 0, 2, 0, 7);
        Check.fails("merge(0) with a broken rule", Check.UNSUPPORTED, x, () -> x.merge(0));
        x.paint(0, 0, 1, 0, 7);
        Check.is("merge(0) with the rule kept", x.merge(0), 3);
        Check.is("isSound()", x.isSound(), true);
    }

    private static void undoBringsBackWhole() {
        CindermapStore x = Check.drawn("12", "3");
        long first = x.checksum();
        x.open();
        x.paint(0, 0, 0, 0, 0);
        x.paint(0, 0, 1, 0, 9);
        x.road(0, 4, 4, true, true);
        Check.is("merge(0)", x.merge(0), 3);
        Check.bring(x, 0, 5, 5, 5);
        Check.is("undo() of the last merge", x.undo(), 1);
        Check.is("size(0, 5)", x.size(0, 5), 0);
        Check.is("undo() of the one before", x.undo(), 3);
        Check.is("checksum() but for the version", x.checksum() - x.version(), first - 1);
        Check.is("version()", x.version(), 5);
        Check.bring(x, 2, 6, 6, 6);
        Check.is("undo() of a merge in between", x.undo(), 1);
        Check.is("undo() of the first merge", x.undo(), 3);
        Check.fails("undo() of nothing", Check.NO_ELEMENT, x, x::undo);
        Check.is("version()", x.version(), 8);
        Check.is("isSound()", x.isSound(), true);
    }

    private static void undoKeepsTheRules() {
        CindermapStore x = Check.drawn("1.1");
        Check.bring(x, 0, 1, 0, 1);
        x.rule('w', 0, 0);
        Check.fails("undo() to a broken rule", Check.UNSUPPORTED, x, x::undo);
        Check.bring(x, 0, 3, 0, 1);
        Check.is("undo() of a later merge", x.undo(), 1);
        Check.fails("undo() to a broken rule again", Check.UNSUPPORTED, x, x::undo);
        Check.is("version()", x.version(), 4);
    }

    private static void thereAreFortyVersions() {
        CindermapStore x = Check.drawn("1");
        for (int version = 2; version <= 40; version++) {
            Check.is("merge of version " + version, Check.bring(x, 0, 1, 0, version % 2), version == 2 ? 0 : 1);
            Check.is("version()", x.version(), version == 2 ? 1 : version - 1);
        }
        Check.is("merge of version 40", Check.bring(x, 0, 5, 0, 4), 1);
        Check.is("version()", x.version(), 40);
        x.open();
        Check.fails("undo() with 40 versions", Check.STATE, x, x::undo);
        x.paint(0, 0, 0, 0, 2);
        Check.fails("merge(0) with 40 versions", Check.STATE, x, () -> x.merge(0));
        x.rule('w', 0, 0);
        Check.fails("merge(0) with 40 versions, kept", Check.STATE, x, () -> x.merge(0));
        x.paint(0, 0, 7, 7, 2);
        Check.fails("merge(0) with 40 versions, broken", Check.UNSUPPORTED, x, () -> x.merge(0));
        x.paint(0, 0, 7, 7, 0);
        x.paint(0, 0, 0, 0, 1);
        Check.is("merge(0) of nothing with 40 versions", x.merge(0), 0);
        Check.is("version()", x.version(), 40);
        Check.is("isSound()", x.isSound(), true);
        undoWithFortyVersionsLooksAtTheRulesFirst();
    }

    private static void undoWithFortyVersionsLooksAtTheRulesFirst() {
        CindermapStore x = new CindermapStore();
        for (int version = 1; version <= 39; version++) {
            Check.bring(x, 1, 0, 0, version % 2 + 1);
        }
        x.rule('x', 0, 2);
        Check.bring(x, 1, 0, 0, 0);
        x.rule('c', 1, 0);
        Check.fails("undo() to a broken rule with 40 versions", Check.UNSUPPORTED, x, x::undo);
        CindermapStore y = new CindermapStore();
        for (int turn = 0; turn < 20; turn++) {
            Check.bring(y, 0, 0, 0, 1);
            Check.is("undo()", y.undo(), 1);
        }
        Check.fails("undo() of nothing with 40 versions", Check.NO_ELEMENT, y, y::undo);
    }
}
