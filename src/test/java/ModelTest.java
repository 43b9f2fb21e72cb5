import java.util.ArrayList;
import java.util.List;
import java.util.function.Supplier;

/**
 * Long runs of calls, right and wrong ones mixed, answered by the class and by PlainModel alike. The
 * numbers come from a fixed sequence, so that each run of the test makes the same calls.
 */
public final class ModelTest {
    private static final int RUNS = 1200;
    private static final int CALLS = 512;

    private long seed;
    /** Few places make conflicts, broken rules and kept ones likely. */
    private final int span;
    /** Out of a hundred steps, how many tell rules: most maps of many rules hardly change any more. */
    private final int rulings;
    private final int layers;
    /** With fewer kinds of steps a run goes further, up to the last version. */
    private final int kinds;
    private final CindermapStore store = new CindermapStore();
    private final PlainModel model = new PlainModel();
    private final List<String> told = new ArrayList<>();

    private ModelTest(int run) {
        seed = 977L * run + 1;
        span = 2 + run % 7;
        rulings = new int[] {0, 1, 1, 3}[run % 4];
        layers = 1 + run % 3;
        kinds = new int[] {46, 66, 76, 100, 100}[run % 5];
    }

    public static void main(String[] args) {
        for (int run = 0; run < RUNS; run++) {
            if (!new ModelTest(run).isAsTheModel()) {
                System.exit(1);
            }
        }
    }

    private boolean isAsTheModel() {
        // A step makes at most five calls, and nothing is promised of calls behind the 512th.
        while (told.size() + 5 <= CALLS) {
            if (!step()) {
                System.out.println(String.join("\n", told.subList(Math.max(0, told.size() - 60), told.size())));
                return false;
            }
        }
        return true;
    }

    private int number(int bound) {
        seed = seed * 6364136223846793005L + 1442695040888963407L;
        return (int) ((seed >>> 33) % bound);
    }

    /** A number from 0 to the bound less one, and now and then one just outside. */
    private int about(int bound) {
        int wrong = number(120);
        return wrong == 0 ? -1 : wrong == 1 ? bound : number(bound);
    }

    private int where() {
        return number(40) == 0 ? about(8) : number(span);
    }

    private int area() {
        return number(3) == 0 ? 0 : number(20) == 0 ? about(10) : 1 + number(3);
    }

    private int branch() {
        int wanted = number(30) == 0 ? about(4) : number(3) / 2;
        return isOpen(wanted) || number(6) == 0 || wanted < 0 ? wanted : 1 - wanted % 2;
    }

    private boolean isOpen(int branch) {
        return !outcome(() -> model.edits(branch)).startsWith("throws");
    }

    private int spot() {
        int kind = number(10);
        if (kind == 0) {
            return about(304);
        }
        int place = 8 * number(span) + number(span);
        return kind < 8 ? 64 * number(3) + place : kind == 8 ? 192 + place * 7 / 8 : Math.min(303, 248 + place);
    }

    private boolean same(String call, Supplier<Object> of, Supplier<Object> due) {
        String got = outcome(of);
        String want = outcome(due);
        told.add(call + " -> " + got + (got.equals(want) ? "" : ", due is " + want));
        return got.equals(want);
    }

    private static String outcome(Supplier<Object> call) {
        try {
            return call.get().toString();
        } catch (RuntimeException e) {
            return "throws " + e.getClass().getSimpleName();
        }
    }

    private boolean step() {
        int kind = number(kinds);
        if (kind < 52) {
            return editStep(kind);
        }
        if (kind < 72) {
            return fieldOrWalkStep(kind);
        }
        return lookStep(kind);
    }

    private boolean editStep(int kind) {
        int branch = branch();
        int spot = spot();
        if (kind < 3 && kind < rulings) {
            char rule = "cxgwmq".charAt(number(24) == 0 ? 5 : number(5));
            int first = about(3);
            int second = about(3);
            return same("rule " + rule + " " + first + " " + second, () -> store.rule(rule, first, second),
                () -> model.rule(rule, first, second));
        }
        if (kind < 8) {
            return same("open", store::open, model::open);
        }
        if (kind < 9) {
            return same("drop " + branch, () -> store.drop(branch), () -> model.drop(branch));
        }
        if (kind < 25) {
            int layer = number(20) == 0 ? about(3) : number(layers);
            int x = where();
            int y = where();
            int area = area();
            return same("paint " + branch + " " + layer + " " + x + " " + y + " " + area,
                () -> store.paint(branch, layer, x, y, area), () -> model.paint(branch, layer, x, y, area));
        }
        if (kind < 33) {
            int x = where();
            int y = where();
            boolean down = number(2) == 0;
            boolean is = number(5) > 0;
            return same("road " + branch + " " + x + " " + y + " " + down + " " + is,
                () -> store.road(branch, x, y, down, is), () -> model.road(branch, x, y, down, is));
        }
        if (kind < 37) {
            int chosen = number(6) == 0 ? spot : outcome(() -> model.conflict(branch, 0)).startsWith("throws") ? spot
                : model.conflict(branch, 0);
            boolean own = number(3) > 0;
            return same("settle " + branch + " " + chosen + " " + own, () -> store.settle(branch, chosen, own),
                () -> model.settle(branch, chosen, own));
        }
        if (kind < 46) {
            // One branch stays open longer than the other, so that it comes into conflicts.
            int merged = number(4) > 0 && isOpen(1) ? 1 : branch;
            return same("breaks " + merged, () -> store.breaks(merged), () -> model.breaks(merged))
                && same("merge " + merged, () -> store.merge(merged), () -> model.merge(merged));
        }
        return number(2) == 0 ? same("undo", store::undo, model::undo)
            : same("seen " + branch + " " + spot, () -> store.seen(branch, spot), () -> model.seen(branch, spot));
    }

    private boolean fieldOrWalkStep(int kind) {
        int device = number(20) == 0 ? about(3) : number(2);
        int branch = branch();
        if (kind < 54) {
            return same("device", store::device, model::device);
        }
        if (kind < 62) {
            int time = number(30) == 0 ? about(10000) : 100 + number(12);
            int layer = number(20) == 0 ? about(3) : number(layers);
            int x = where();
            int y = where();
            int area = area();
            return same("note " + device + " " + time + " " + layer + " " + x + " " + y + " " + area,
                () -> store.note(device, time, layer, x, y, area), () -> model.note(device, time, layer, x, y, area));
        }
        if (kind < 65) {
            int own = number(20) == 0 ? about(10000) : number(5);
            int right = number(20) == 0 ? about(10000) : number(5);
            return same("home " + device + " " + branch + " " + own + " " + right,
                () -> store.home(device, branch, own, right), () -> model.home(device, branch, own, right));
        }
        if (kind < 66) {
            return same("ahead " + device, () -> store.ahead(device), () -> model.ahead(device));
        }
        if (kind < 68) {
            int layer = about(3);
            int area = number(10) == 0 ? about(10) : 1 + number(3);
            return same("walk " + layer + " " + area, () -> store.walk(layer, area), () -> model.walk(layer, area));
        }
        return number(2) == 0 ? same("hasNext", store::hasNext, model::hasNext)
            : same("next", store::next, model::next);
    }

    private boolean lookStep(int kind) {
        int branch = branch();
        int layer = about(3);
        int spot = spot();
        if (kind < 78) {
            int scale = number(30) == 0 ? number(20) - 5 : 1 << number(4);
            int bound = scale > 0 ? Math.max(1, 8 / scale) : 1;
            int x = number(3) == 0 ? about(bound) : 0;
            int y = number(3) == 0 ? about(bound) : 0;
            String tile = scale + " " + layer + " " + x + " " + y;
            return number(2) == 0
                ? same("tile " + tile, () -> store.tile(scale, layer, x, y), () -> model.tile(scale, layer, x, y))
                : same("isKept " + tile, () -> store.isKept(scale, layer, x, y), () -> model.isKept(scale, layer, x, y));
        }
        if (kind < 82) {
            int index = about(3);
            return same("edits " + branch, () -> store.edits(branch), () -> model.edits(branch))
                && same("conflicts " + branch, () -> store.conflicts(branch), () -> model.conflicts(branch))
                && same("conflict " + branch + " " + index, () -> store.conflict(branch, index),
                    () -> model.conflict(branch, index));
        }
        if (kind < 87) {
            int version = about(model.version() + 1);
            int index = about(4);
            return same("value " + spot + " " + version, () -> store.value(spot, version),
                    () -> model.value(spot, version))
                && same("changes " + spot, () -> store.changes(spot), () -> model.changes(spot))
                && same("changed " + spot + " " + index, () -> store.changed(spot, index),
                    () -> model.changed(spot, index));
        }
        if (kind < 90) {
            int from = 8 * where() + where();
            int to = 8 * where() + where();
            int version = about(model.version() + 1);
            return same("route " + from + " " + to + " " + version, () -> store.route(from, to, version),
                () -> model.route(from, to, version));
        }
        if (kind < 95) {
            int one = about(10);
            int other = number(4);
            return same("leaves " + layer, () -> store.leaves(layer), () -> model.leaves(layer))
                && same("border " + layer + " " + one + " " + other, () -> store.border(layer, one, other),
                    () -> model.border(layer, one, other))
                && same("size " + layer + " " + other, () -> store.size(layer, other), () -> model.size(layer, other));
        }
        return same("fullShare " + layer, () -> store.fullShare(layer), () -> model.fullShare(layer))
            && same("meanSize " + layer, () -> store.meanSize(layer), () -> model.meanSize(layer))
            && same("made", store::made, model::made)
            && same("checksum", store::checksum, model::checksum)
            && same("isSound", store::isSound, model::isSound);
    }
}
