import java.util.ArrayDeque;
import java.util.ArrayList;
import java.util.HashMap;
import java.util.HashSet;
import java.util.List;
import java.util.Map;
import java.util.NoSuchElementException;
import java.util.Set;
import java.util.TreeMap;

/** The document once more, told as plainly as may be with the Java library, for ModelTest. */
final class PlainModel {
    private static final class Draft {
        int[] base;
        final TreeMap<Integer, Integer> edits = new TreeMap<>();
        final Map<Integer, Integer> settled = new HashMap<>();
        final Map<Integer, Integer> times = new HashMap<>();
    }

    private static final class Pad {
        final List<int[]> notes = new ArrayList<>();
        int ahead = 0;
    }

    private final List<int[]> versions = new ArrayList<>();
    private final List<int[]> rules = new ArrayList<>();
    private final Draft[] drafts = new Draft[4];
    private final ArrayDeque<Map<Integer, Integer>> undoable = new ArrayDeque<>();
    private final Set<String> kept = new HashSet<>();
    private final List<Pad> pads = new ArrayList<>();
    private int made = 0;
    private int[] walk = null;

    PlainModel() {
        versions.add(new int[304]);
    }

    private int[] now() {
        return versions.get(versions.size() - 1);
    }

    private static void need(boolean given) {
        if (!given) {
            throw new IllegalArgumentException();
        }
    }

    private static boolean in(int number, int first, int last) {
        return first <= number && number <= last;
    }

    private Draft draft(int branch) {
        if (!in(branch, 0, 3) || drafts[branch] == null) {
            throw new IndexOutOfBoundsException();
        }
        return drafts[branch];
    }

    private Pad pad(int device) {
        if (!in(device, 0, pads.size() - 1)) {
            throw new IndexOutOfBoundsException();
        }
        return pads.get(device);
    }

    int rule(char kind, int first, int second) {
        need("cxgwm".indexOf(kind) >= 0);
        need(kind == 'm' || in(first, 0, 2));
        need("cx".indexOf(kind) < 0 || in(second, 0, 2) && first != second);
        int[] rule = {kind, first, second};
        if (!keeps(rule, now())) {
            throw new UnsupportedOperationException();
        }
        if (rules.size() == 6) {
            throw new IllegalStateException();
        }
        rules.add(rule);
        return rules.size() - 1;
    }

    private static List<Integer> beside(int place) {
        List<Integer> found = new ArrayList<>();
        for (int other = 0; other < 64; other++) {
            int dx = other % 8 - place % 8;
            int dy = other / 8 - place / 8;
            if (dx * dx + dy * dy == 1) {
                found.add(other);
            }
        }
        return found;
    }

    private static boolean road(int[] map, int one, int other) {
        int x = Math.min(one % 8, other % 8);
        int y = Math.min(one / 8, other / 8);
        return map[one / 8 == other / 8 ? 192 + 7 * y + x : 248 + 8 * y + x] == 1;
    }

    private static boolean keeps(int[] rule, int[] map) {
        for (int place = 0; place < 64; place++) {
            int here = rule[0] == 'm' ? 0 : map[64 * rule[1] + place];
            int there = "cx".indexOf(rule[0]) < 0 ? 0 : map[64 * rule[2] + place];
            int roads = 0;
            int full = 0;
            for (int other : beside(place)) {
                roads += road(map, place, other) ? 1 : 0;
                full += rule[0] == 'g' && map[64 * rule[1] + other] > 0 ? 1 : 0;
            }
            boolean inside = beside(place).size() == 4 && in(place % 8, 1, 6) && in(place / 8, 1, 6);
            if (rule[0] == 'c' && here > 0 && there == 0 || rule[0] == 'x' && here > 0 && there > 0
                    || rule[0] == 'g' && here == 0 && full == beside(place).size()
                    || rule[0] == 'm' && inside && roads == 1) {
                return false;
            }
        }
        return rule[0] != 'w' || hangs(map, rule[1]);
    }

    private static boolean hangs(int[] map, int layer) {
        Set<Integer> begun = new HashSet<>();
        Set<Integer> passed = new HashSet<>();
        for (int place = 0; place < 64; place++) {
            int area = map[64 * layer + place];
            if (area == 0 || passed.contains(place)) {
                continue;
            }
            if (!begun.add(area)) {
                return false;
            }
            ArrayDeque<Integer> open = new ArrayDeque<>();
            open.add(place);
            while (!open.isEmpty()) {
                int at = open.pop();
                if (passed.add(at)) {
                    for (int other : beside(at)) {
                        if (map[64 * layer + other] == area) {
                            open.add(other);
                        }
                    }
                }
            }
        }
        return true;
    }

    private int broken(int[] map) {
        for (int number = 0; number < rules.size(); number++) {
            if (!keeps(rules.get(number), map)) {
                return number;
            }
        }
        return -1;
    }

    int open() {
        for (int branch = 0; branch < 4; branch++) {
            if (drafts[branch] == null) {
                drafts[branch] = new Draft();
                drafts[branch].base = now().clone();
                return branch;
            }
        }
        throw new IllegalStateException();
    }

    int drop(int branch) {
        int count = draft(branch).edits.size();
        drafts[branch] = null;
        return count;
    }

    private static void edit(Draft draft, int spot, int value) {
        draft.edits.put(spot, value);
        if (draft.base[spot] == value) {
            draft.edits.remove(spot);
            draft.settled.remove(spot);
        }
    }

    int paint(int branch, int layer, int x, int y, int area) {
        Draft draft = draft(branch);
        need(in(layer, 0, 2) && in(x, 0, 7) && in(y, 0, 7) && in(area, 0, 9));
        edit(draft, 64 * layer + 8 * y + x, area);
        return draft.edits.size();
    }

    int road(int branch, int x, int y, boolean down, boolean is) {
        Draft draft = draft(branch);
        need(in(x, 0, 7) && in(y, 0, 7) && (down ? y < 7 : x < 7));
        edit(draft, down ? 248 + 8 * y + x : 192 + 7 * y + x, is ? 1 : 0);
        return draft.edits.size();
    }

    int seen(int branch, int spot) {
        Draft draft = draft(branch);
        need(in(spot, 0, 303));
        return draft.edits.getOrDefault(spot, draft.base[spot]);
    }

    int edits(int branch) {
        return draft(branch).edits.size();
    }

    private List<Integer> conflictsOf(Draft draft) {
        List<Integer> found = new ArrayList<>();
        for (int spot : draft.edits.keySet()) {
            int by = now()[spot];
            if (by != draft.base[spot] && by != draft.edits.get(spot) && by != draft.settled.getOrDefault(spot, -1)) {
                found.add(spot);
            }
        }
        return found;
    }

    int conflicts(int branch) {
        return conflictsOf(draft(branch)).size();
    }

    int conflict(int branch, int index) {
        List<Integer> found = conflictsOf(draft(branch));
        if (!in(index, 0, found.size() - 1)) {
            throw new NoSuchElementException();
        }
        return found.get(index);
    }

    int settle(int branch, int spot, boolean own) {
        Draft draft = draft(branch);
        need(in(spot, 0, 303));
        if (!conflictsOf(draft).contains(spot)) {
            throw new UnsupportedOperationException();
        }
        if (own) {
            draft.settled.put(spot, now()[spot]);
        } else {
            edit(draft, spot, draft.base[spot]);
        }
        return conflictsOf(draft).size();
    }

    private int[] merged(Draft draft) {
        int[] map = now().clone();
        draft.edits.forEach((spot, value) -> map[spot] = value);
        return map;
    }

    int breaks(int branch) {
        return broken(merged(draft(branch)));
    }

    private Map<Integer, Integer> differences(int[] map) {
        Map<Integer, Integer> before = new HashMap<>();
        for (int spot = 0; spot < 304; spot++) {
            if (map[spot] != now()[spot]) {
                before.put(spot, now()[spot]);
            }
        }
        return before;
    }

    private void bring(int[] map) {
        for (int spot : differences(map).keySet()) {
            if (spot < 192) {
                for (int scale = 1; scale <= 8; scale *= 2) {
                    kept.remove(scale + " " + spot / 64 + " " + spot % 8 / scale + " " + spot % 64 / 8 / scale);
                }
            }
        }
        versions.add(map);
    }

    int merge(int branch) {
        Draft draft = draft(branch);
        int[] map = merged(draft);
        if (!conflictsOf(draft).isEmpty() || broken(map) >= 0) {
            throw new UnsupportedOperationException();
        }
        Map<Integer, Integer> before = differences(map);
        if (!before.isEmpty()) {
            if (versions.size() == 41) {
                throw new IllegalStateException();
            }
            bring(map);
            undoable.push(before);
        }
        drafts[branch] = null;
        return before.size();
    }

    int undo() {
        if (undoable.isEmpty()) {
            throw new NoSuchElementException();
        }
        int[] map = now().clone();
        undoable.peek().forEach((spot, value) -> map[spot] = value);
        if (broken(map) >= 0) {
            throw new UnsupportedOperationException();
        }
        if (versions.size() == 41) {
            throw new IllegalStateException();
        }
        int count = differences(map).size();
        bring(map);
        undoable.pop();
        return count;
    }

    int version() {
        return versions.size() - 1;
    }

    int value(int spot, int version) {
        need(in(spot, 0, 303) && in(version, 0, version()));
        return versions.get(version)[spot];
    }

    private List<Integer> changesOf(int spot) {
        need(in(spot, 0, 303));
        List<Integer> found = new ArrayList<>();
        for (int version = 1; version < versions.size(); version++) {
            if (versions.get(version)[spot] != versions.get(version - 1)[spot]) {
                found.add(version);
            }
        }
        return found;
    }

    int changes(int spot) {
        return changesOf(spot).size();
    }

    int changed(int spot, int index) {
        List<Integer> found = changesOf(spot);
        if (!in(index, 0, found.size() - 1)) {
            throw new NoSuchElementException();
        }
        return found.get(index);
    }

    int route(int from, int to, int version) {
        need(in(from, 0, 63) && in(to, 0, 63) && in(version, 0, version()));
        int[] far = new int[64];
        java.util.Arrays.fill(far, 1000);
        far[from] = 0;
        for (int turn = 0; turn < 64; turn++) {
            for (int place = 0; place < 64; place++) {
                for (int other : beside(place)) {
                    if (road(versions.get(version), place, other)) {
                        far[place] = Math.min(far[place], far[other] + 1);
                    }
                }
            }
        }
        if (far[to] >= 1000) {
            throw new NoSuchElementException();
        }
        return far[to];
    }

    private static String tileName(int scale, int layer, int x, int y) {
        need((scale == 1 || scale == 2 || scale == 4 || scale == 8) && in(layer, 0, 2));
        need(in(x, 0, 8 / scale - 1) && in(y, 0, 8 / scale - 1));
        return scale + " " + layer + " " + x + " " + y;
    }

    private int[] counts(int layer, int left, int top, int side) {
        int[] counts = new int[10];
        for (int place = 0; place < 64; place++) {
            if (in(place % 8, left, left + side - 1) && in(place / 8, top, top + side - 1)) {
                counts[now()[64 * layer + place]]++;
            }
        }
        return counts;
    }

    int tile(int scale, int layer, int x, int y) {
        if (kept.add(tileName(scale, layer, x, y))) {
            made++;
        }
        int[] counts = counts(layer, x * scale, y * scale, scale);
        int best = 9;
        for (int area = 8; area >= 0; area--) {
            best = counts[area] >= counts[best] ? area : best;
        }
        return best;
    }

    boolean isKept(int scale, int layer, int x, int y) {
        return kept.contains(tileName(scale, layer, x, y));
    }

    int made() {
        return made;
    }

    int leaves(int layer) {
        need(in(layer, 0, 2));
        return leavesOf(layer, 0, 0, 8);
    }

    private int leavesOf(int layer, int left, int top, int side) {
        for (int count : counts(layer, left, top, side)) {
            if (count == side * side) {
                return 1;
            }
        }
        int half = side / 2;
        return leavesOf(layer, left, top, half) + leavesOf(layer, left + half, top, half)
            + leavesOf(layer, left, top + half, half) + leavesOf(layer, left + half, top + half, half);
    }

    int border(int layer, int one, int other) {
        need(in(layer, 0, 2) && in(one, 0, 9) && in(other, 0, 9) && one != other);
        int count = 0;
        for (int place = 0; place < 64; place++) {
            for (int next : beside(place)) {
                count += now()[64 * layer + place] == one && now()[64 * layer + next] == other ? 1 : 0;
            }
        }
        return count;
    }

    int size(int layer, int area) {
        need(in(layer, 0, 2) && in(area, 1, 9));
        return counts(layer, 0, 0, 8)[area];
    }

    int walk(int layer, int area) {
        int places = size(layer, area);
        walk = new int[] {layer, area, -1};
        return places;
    }

    private int ahead() {
        int place = walk[2] + 1;
        while (place < 64 && now()[64 * walk[0] + place] != walk[1]) {
            place++;
        }
        return place;
    }

    boolean hasNext() {
        return walk != null && ahead() < 64;
    }

    int next() {
        if (walk == null) {
            throw new IllegalStateException();
        }
        if (!hasNext()) {
            throw new NoSuchElementException();
        }
        walk[2] = ahead();
        return walk[2];
    }

    int device() {
        if (pads.size() == 3) {
            throw new IllegalStateException();
        }
        pads.add(new Pad());
        return pads.size() - 1;
    }

    int note(int device, int time, int layer, int x, int y, int area) {
        Pad pad = pad(device);
        need(in(time, 0, 9999) && in(layer, 0, 2) && in(x, 0, 7) && in(y, 0, 7) && in(area, 0, 9));
        if (pad.notes.size() == 20) {
            throw new IllegalStateException();
        }
        pad.notes.add(new int[] {time, 64 * layer + 8 * y + x, area});
        return pad.notes.size();
    }

    int home(int device, int branch, int own, int right) {
        Pad pad = pad(device);
        Draft draft = draft(branch);
        need(in(own, 0, 9999) && in(right, 0, 9999));
        pad.ahead = own - right;
        pad.notes.sort((one, other) -> Integer.compare(one[0], other[0]));
        int count = 0;
        for (int[] note : pad.notes) {
            int time = note[0] - pad.ahead;
            if (draft.times.getOrDefault(note[1], Integer.MIN_VALUE) <= time) {
                draft.times.put(note[1], time);
                edit(draft, note[1], note[2]);
                count++;
            }
        }
        pad.notes.clear();
        return count;
    }

    int ahead(int device) {
        return pad(device).ahead;
    }

    private double full(int layer) {
        need(in(layer, 0, 2));
        return 64 - counts(layer, 0, 0, 8)[0];
    }

    float fullShare(int layer) {
        return (float) (full(layer) / 64);
    }

    double meanSize(int layer) {
        double places = full(layer);
        int areas = 0;
        for (int area = 1; area < 10; area++) {
            areas += size(layer, area) > 0 ? 1 : 0;
        }
        if (areas == 0) {
            throw new ArithmeticException();
        }
        return places / areas;
    }

    long checksum() {
        long sum = 7;
        for (int value : now()) {
            sum = 31 * sum + value;
        }
        return 31 * sum + version();
    }

    boolean isSound() {
        return true;
    }
}
