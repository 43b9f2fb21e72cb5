/** Promises 26 to 28: walks. */
public final class WalkTest {
    public static void main(String[] args) {
        aWalkGoesByNumbers();
        stepsLookAtTheMapByThen();
        anotherWalkTakesItsPlace();
        wrongWalksAreRefused();
        Check.end();
    }

    private static void aWalkGoesByNumbers() {
        CindermapStore x = Check.drawn("3.......", ".3.....3", "", "", "", "", "", ".......3");
        Check.is("hasNext() without a walk", x.hasNext(), false);
        Check.fails("next() without a walk", Check.STATE, x, x::next);
        Check.is("walk(0, 3)", x.walk(0, 3), 4);
        for (int place : new int[] {0, 9, 15, 63}) {
            Check.is("hasNext() before " + place, x.hasNext(), true);
            Check.is("next()", x.next(), place);
        }
        Check.is("hasNext() at the end", x.hasNext(), false);
        Check.fails("next() at the end", Check.NO_ELEMENT, x, x::next);
        Check.is("walk(1, 3) of nothing", x.walk(1, 3), 0);
        Check.is("hasNext() of nothing", x.hasNext(), false);
        Check.fails("next() of nothing", Check.NO_ELEMENT, x, x::next);
    }

    private static void stepsLookAtTheMapByThen() {
        CindermapStore x = Check.drawn("2222");
        x.walk(0, 2);
        x.next();
        x.next();
        x.open();
        x.paint(0, 0, 0, 0, 0);
        x.paint(0, 0, 2, 0, 5);
        x.paint(0, 0, 7, 7, 2);
        x.merge(0);
        Check.is("next() behind a place that is gone", x.next(), 3);
        Check.is("next() at a place that is new", x.next(), 63);
        Check.is("hasNext()", x.hasNext(), false);
        x.undo();
        Check.is("hasNext() with places before the last alone", x.hasNext(), false);
        x.walk(0, 2);
        for (int place = 0; place < 4; place++) {
            Check.is("next()", x.next(), place);
        }
        Check.fails("next() at the end", Check.NO_ELEMENT, x, x::next);
        Check.bring(x, 0, 4, 0, 2);
        Check.is("hasNext() with the end moved", x.hasNext(), true);
        Check.is("next() with the end moved", x.next(), 4);
        x.undo();
        Check.is("hasNext() with the last place gone", x.hasNext(), false);
    }

    private static void anotherWalkTakesItsPlace() {
        CindermapStore x = Check.drawn("2323");
        x.walk(0, 2);
        x.next();
        Check.is("walk(0, 3)", x.walk(0, 3), 2);
        Check.is("next()", x.next(), 1);
        x.walk(0, 3);
        Check.is("next() of the walk begun again", x.next(), 1);
    }

    private static void wrongWalksAreRefused() {
        CindermapStore x = Check.drawn("22");
        x.walk(0, 2);
        x.next();
        Check.fails("walk(0, 0)", Check.ARGUMENT, x, () -> x.walk(0, 0));
        Check.fails("walk(0, 10)", Check.ARGUMENT, x, () -> x.walk(0, 10));
        Check.fails("walk(0, -1)", Check.ARGUMENT, x, () -> x.walk(0, -1));
        Check.fails("walk(3, 1)", Check.ARGUMENT, x, () -> x.walk(3, 1));
        Check.fails("walk(-1, 1)", Check.ARGUMENT, x, () -> x.walk(-1, 1));
        Check.is("next() of the walk that stands", x.next(), 1);
    }
}
