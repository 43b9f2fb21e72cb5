import java.util.Arrays;
import java.util.NoSuchElementException;

/** A store of a map whose places have versions. ../shared/DOC.md tells what each call promises. */
public final class CindermapStore {
    private static final int SIDE = 8;
    private static final int PLACES = 64;
    private static final int LAYERS = 3;
    private static final int AREAS = 9;
    private static final int RIGHT_ROADS = 192;
    private static final int DOWN_ROADS = 248;
    private static final int SPOTS = 304;
    private static final int MOST_RULES = 6;
    private static final int MOST_BRANCHES = 4;
    private static final int MOST_VERSIONS = 40;
    private static final int MOST_DEVICES = 3;
    private static final int MOST_NOTES = 20;
    private static final int LAST_TIME = 9999;
    private static final int NONE = -1;

    private final int[] map = new int[SPOTS];
    /** What the map would be, or was: each call that uses it fills it first. */
    private final int[] trial = new int[SPOTS];
    private final Rule[] rules = new Rule[MOST_RULES];
    private int ruleCount = 0;
    private final Branch[] branches = new Branch[MOST_BRANCHES];
    private final Device[] devices = new Device[MOST_DEVICES];
    private int deviceCount = 0;
    private final History history = new History();
    private final Tiles tiles = new Tiles();
    private final Walk going = new Walk();
    private final Search search = new Search();
    private final PairCheck pairs = new PairCheck();

    public CindermapStore() {
        for (int number = 0; number < MOST_BRANCHES; number++) {
            branches[number] = new Branch();
        }
    }

    // ---- rules

    public int rule(char kind, int first, int second)
            throws IllegalArgumentException, UnsupportedOperationException, IllegalStateException {
        need(Rule.isRule(kind, first, second));
        Rule added = new Rule(kind, first, second);
        if (!added.holdsIn(map, search)) {
            throw new UnsupportedOperationException();
        }
        if (ruleCount < 0 || ruleCount >= MOST_RULES) {
            throw new IllegalStateException();
        }
        rules[ruleCount] = added;
        ruleCount++;
        return ruleCount - 1;
    }

    /** The first rule that the row breaks, or NONE. */
    private int firstBroken(int[] row) {
        for (int number = 0; number < ruleCount && number < MOST_RULES; number++) {
            Rule looked = rules[number];
            if (looked != null && !looked.holdsIn(row, search)) {
                return number;
            }
        }
        return NONE;
    }

    // ---- branches

    public int open() throws IllegalStateException {
        for (int number = 0; number < MOST_BRANCHES; number++) {
            Branch free = branches[number];
            if (free != null && !free.isOpen) {
                free.begin(map);
                return number;
            }
        }
        throw new IllegalStateException();
    }

    public int drop(int branch) throws IndexOutOfBoundsException {
        Branch dropped = openBranch(branch);
        dropped.isOpen = false;
        return dropped.editCount();
    }

    public int paint(int branch, int layer, int x, int y, int area)
            throws IndexOutOfBoundsException, IllegalArgumentException {
        Branch edited = openBranch(branch);
        need(isPlace(layer, x, y) && isWithin(area, AREAS));
        edited.put(Grid.areaSpot(layer, SIDE * y + x), area);
        return edited.editCount();
    }

    public int road(int branch, int x, int y, boolean down, boolean is)
            throws IndexOutOfBoundsException, IllegalArgumentException {
        Branch edited = openBranch(branch);
        need(isWithin(x, down ? SIDE - 1 : SIDE - 2) && isWithin(y, down ? SIDE - 2 : SIDE - 1));
        edited.put(down ? Grid.downRoad(x, y) : Grid.rightRoad(x, y), is ? 1 : 0);
        return edited.editCount();
    }

    public int seen(int branch, int spot)
            throws IndexOutOfBoundsException, IllegalArgumentException {
        Branch looked = openBranch(branch);
        need(isSpot(spot));
        return looked.sight(spot);
    }

    public int edits(int branch) throws IndexOutOfBoundsException {
        return openBranch(branch).editCount();
    }

    public int conflicts(int branch) throws IndexOutOfBoundsException {
        return openBranch(branch).conflictCount(map);
    }

    public int conflict(int branch, int index)
            throws IndexOutOfBoundsException, NoSuchElementException {
        int spot = openBranch(branch).conflictAt(index, map);
        if (spot == NONE) {
            throw new NoSuchElementException();
        }
        return spot;
    }

    public int settle(int branch, int spot, boolean own)
            throws IndexOutOfBoundsException, IllegalArgumentException, UnsupportedOperationException {
        Branch settled = openBranch(branch);
        need(isSpot(spot));
        if (!settled.isConflict(spot, map[spot])) {
            throw new UnsupportedOperationException();
        }
        if (own) {
            settled.ownCountsOver(spot, map[spot]);
        } else {
            settled.takeAway(spot);
        }
        return settled.conflictCount(map);
    }

    /** The branch of that number, which must be open. */
    private Branch openBranch(int number) {
        if (number < 0 || number >= MOST_BRANCHES) {
            throw new IndexOutOfBoundsException();
        }
        Branch found = branches[number];
        if (found == null || !found.isOpen) {
            throw new IndexOutOfBoundsException();
        }
        return found;
    }

    // ---- merges

    public int breaks(int branch) throws IndexOutOfBoundsException {
        openBranch(branch).writeOver(map, trial);
        return firstBroken(trial);
    }

    public int merge(int branch)
            throws IndexOutOfBoundsException, UnsupportedOperationException, IllegalStateException {
        Branch merged = openBranch(branch);
        merged.writeOver(map, trial);
        if (merged.conflictCount(map) > 0 || firstBroken(trial) != NONE) {
            throw new UnsupportedOperationException();
        }
        int count = Grid.unlikeSpots(map, trial);
        if (count > 0) {
            if (history.isFull()) {
                throw new IllegalStateException();
            }
            bringTrialToMap();
            history.rememberMerge();
        }
        merged.isOpen = false;
        return count;
    }

    public int undo()
            throws NoSuchElementException, UnsupportedOperationException, IllegalStateException {
        int undone = history.lastMerge();
        if (undone == NONE) {
            throw new NoSuchElementException();
        }
        // All later merges are undone by now, so the map is again as the merge left it.
        history.writeAt(undone - 1, trial);
        if (firstBroken(trial) != NONE) {
            throw new UnsupportedOperationException();
        }
        if (history.isFull()) {
            throw new IllegalStateException();
        }
        int count = Grid.unlikeSpots(map, trial);
        bringTrialToMap();
        history.forgetMerge();
        return count;
    }

    /** Makes the trial the map, as a version more, for which there is room. */
    private void bringTrialToMap() {
        history.add(map, trial);
        tiles.throwOutUnlike(map, trial);
        System.arraycopy(trial, 0, map, 0, SPOTS);
    }

    // ---- history

    public int version() {
        return history.newest;
    }

    public int value(int spot, int version) throws IllegalArgumentException {
        need(isSpot(spot) && isWithin(version, history.newest));
        return history.valueAt(spot, version);
    }

    public int changes(int spot) throws IllegalArgumentException {
        need(isSpot(spot));
        return history.changeCount(spot);
    }

    public int changed(int spot, int index)
            throws IllegalArgumentException, NoSuchElementException {
        need(isSpot(spot));
        int found = history.changeAt(spot, index);
        if (found == NONE) {
            throw new NoSuchElementException();
        }
        return found;
    }

    public int route(int from, int to, int version)
            throws IllegalArgumentException, NoSuchElementException {
        need(isWithin(from, PLACES - 1) && isWithin(to, PLACES - 1)
                && isWithin(version, history.newest));
        history.writeAt(version, trial);
        search.spread(trial, Search.OVER_ROADS, from);
        int steps = search.stepsTo(to);
        if (steps == NONE) {
            throw new NoSuchElementException();
        }
        return steps;
    }

    // ---- tiles and shapes

    public int tile(int scale, int layer, int x, int y) throws IllegalArgumentException {
        need(Tiles.isTile(scale, layer, x, y));
        return tiles.ask(map, Tiles.levelOf(scale), layer, x, y);
    }

    public boolean isKept(int scale, int layer, int x, int y) throws IllegalArgumentException {
        need(Tiles.isTile(scale, layer, x, y));
        return tiles.holds(Tiles.levelOf(scale), layer, x, y);
    }

    public int made() {
        return tiles.makings;
    }

    public int leaves(int layer) throws IllegalArgumentException {
        need(isLayer(layer));
        int count = 1;
        // Each square that is split puts four leaves in the place of one.
        for (int level = 1; level < Tiles.LEVELS; level++) {
            count += 3 * Grid.mixedSquares(map, layer, level);
        }
        return count;
    }

    public int border(int layer, int one, int other) throws IllegalArgumentException {
        need(isLayer(layer) && isWithin(one, AREAS) && isWithin(other, AREAS) && one != other);
        int count = 0;
        for (int place = 0; place < PLACES; place++) {
            int here = Grid.areaAt(map, layer, place);
            // Only rightward and downward, so that each side is met once.
            for (int direction = Grid.RIGHT; direction <= Grid.DOWN; direction++) {
                int beside = Grid.beside(place, direction);
                int there = beside == NONE ? NONE : Grid.areaAt(map, layer, beside);
                if (here == one && there == other || here == other && there == one) {
                    count++;
                }
            }
        }
        return count;
    }

    public int size(int layer, int area) throws IllegalArgumentException {
        need(isLayer(layer) && isArea(area));
        return Grid.placesOf(map, layer, area);
    }

    // ---- the walk

    public int walk(int layer, int area) throws IllegalArgumentException {
        need(isLayer(layer) && isArea(area));
        going.begin(layer, area);
        return Grid.placesOf(map, layer, area);
    }

    public boolean hasNext() {
        return going.placeAhead(map) != NONE;
    }

    public int next() throws IllegalStateException, NoSuchElementException {
        if (!going.isBegun) {
            throw new IllegalStateException();
        }
        int place = going.placeAhead(map);
        if (place == NONE) {
            throw new NoSuchElementException();
        }
        going.last = place;
        return place;
    }

    // ---- the field

    public int device() throws IllegalStateException {
        if (deviceCount < 0 || deviceCount >= MOST_DEVICES) {
            throw new IllegalStateException();
        }
        devices[deviceCount] = new Device();
        deviceCount++;
        return deviceCount - 1;
    }

    public int note(int device, int time, int layer, int x, int y, int area)
            throws IndexOutOfBoundsException, IllegalArgumentException, IllegalStateException {
        Device noting = knownDevice(device);
        need(isWithin(time, LAST_TIME) && isPlace(layer, x, y) && isWithin(area, AREAS));
        if (noting.isFull()) {
            throw new IllegalStateException();
        }
        noting.add(time, Grid.areaSpot(layer, SIDE * y + x), area);
        return noting.count;
    }

    public int home(int device, int branch, int own, int right)
            throws IndexOutOfBoundsException, IllegalArgumentException {
        Device brought = knownDevice(device);
        Branch edited = openBranch(branch);
        need(isWithin(own, LAST_TIME) && isWithin(right, LAST_TIME));
        return brought.bringTo(edited, own - right);
    }

    public int ahead(int device) throws IndexOutOfBoundsException {
        return knownDevice(device).lead;
    }

    private Device knownDevice(int number) {
        if (number < 0 || number >= MOST_DEVICES) {
            throw new IndexOutOfBoundsException();
        }
        Device found = devices[number];
        if (found == null) {
            throw new IndexOutOfBoundsException();
        }
        return found;
    }

    // ---- sums

    public float fullShare(int layer) throws IllegalArgumentException {
        need(isLayer(layer));
        return (float) (PLACES - Grid.placesOf(map, layer, 0)) / (float) PLACES;
    }

    public double meanSize(int layer) throws IllegalArgumentException, ArithmeticException {
        need(isLayer(layer));
        int areas = 0;
        for (int area = 1; area <= AREAS; area++) {
            if (Grid.placesOf(map, layer, area) > 0) {
                areas++;
            }
        }
        if (areas == 0) {
            throw new ArithmeticException();
        }
        return (double) (PLACES - Grid.placesOf(map, layer, 0)) / (double) areas;
    }

    public long checksum() {
        long sum = 7;
        for (int spot = 0; spot < SPOTS; spot++) {
            sum = 31 * sum + map[spot];
        }
        return 31 * sum + history.newest;
    }

    public boolean isSound() {
        history.writeAt(history.newest, trial);
        return rulesHoldByPairs()
                && Grid.unlikeSpots(map, trial) == 0
                && tiles.areRight(map)
                && branchesAreSound();
    }

    private boolean rulesHoldByPairs() {
        for (int number = 0; number < ruleCount && number < MOST_RULES; number++) {
            Rule looked = rules[number];
            if (looked != null && !pairs.holds(looked, map)) {
                return false;
            }
        }
        return true;
    }

    private boolean branchesAreSound() {
        for (int number = 0; number < MOST_BRANCHES; number++) {
            Branch looked = branches[number];
            if (looked != null && looked.isOpen && looked.hasIdleEdit()) {
                return false;
            }
        }
        return true;
    }

    // ---- ranges

    private static void need(boolean isGiven) {
        if (!isGiven) {
            throw new IllegalArgumentException();
        }
    }

    private static boolean isWithin(int number, int last) {
        return number >= 0 && number <= last;
    }

    private static boolean isLayer(int layer) {
        return isWithin(layer, LAYERS - 1);
    }

    private static boolean isPlace(int layer, int x, int y) {
        return isLayer(layer) && isWithin(x, SIDE - 1) && isWithin(y, SIDE - 1);
    }

    private static boolean isSpot(int spot) {
        return isWithin(spot, SPOTS - 1);
    }

    private static boolean isArea(int area) {
        return area >= 1 && area <= AREAS;
    }

    /** How spots are numbered, and what lies beside what. A row holds a value for each spot. */
    private static final class Grid {
        static final int RIGHT = 0;
        static final int DOWN = 1;
        static final int LEFT = 2;
        static final int UP = 3;
        static final int DIRECTIONS = 4;

        static int areaSpot(int layer, int place) {
            return PLACES * layer + place;
        }

        static int rightRoad(int x, int y) {
            return RIGHT_ROADS + (SIDE - 1) * y + x;
        }

        static int downRoad(int x, int y) {
            return DOWN_ROADS + SIDE * y + x;
        }

        /** The value of the spot; no spot has none, like an empty one. */
        static int valueIn(int[] row, int spot) {
            return spot >= 0 && spot < row.length ? row[spot] : 0;
        }

        static int areaAt(int[] row, int layer, int place) {
            int spot = PLACES * layer + place;
            return spot >= 0 && spot < row.length ? row[spot] : 0;
        }

        /** The place beside that one, or NONE behind the edge. */
        static int beside(int place, int direction) {
            int x = place % SIDE;
            int y = place / SIDE;
            if (direction == RIGHT) {
                return x < SIDE - 1 ? place + 1 : NONE;
            }
            if (direction == DOWN) {
                return y < SIDE - 1 ? place + SIDE : NONE;
            }
            if (direction == LEFT) {
                return x > 0 ? place - 1 : NONE;
            }
            return y > 0 ? place - SIDE : NONE;
        }

        static boolean touch(int place, int other) {
            return Math.abs(place % SIDE - other % SIDE) + Math.abs(place / SIDE - other / SIDE) == 1;
        }

        static boolean isRoadBetween(int[] row, int place, int other) {
            int first = Math.min(place, other);
            int second = Math.max(place, other);
            int x = first % SIDE;
            int y = first / SIDE;
            if (second == first + SIDE) {
                return valueIn(row, downRoad(x, y)) == 1;
            }
            return second == first + 1 && x < SIDE - 1 && valueIn(row, rightRoad(x, y)) == 1;
        }

        static boolean isAtEdge(int place) {
            int x = place % SIDE;
            int y = place / SIDE;
            return x == 0 || x == SIDE - 1 || y == 0 || y == SIDE - 1;
        }

        static int placesOf(int[] row, int layer, int area) {
            return placesIn(row, layer, area, Tiles.LEVELS - 1, 0, 0);
        }

        /** How many places of the area a square has; its side is 2 to the power of the level. */
        static int placesIn(int[] row, int layer, int area, int level, int x, int y) {
            int side = 1 << level;
            int count = 0;
            for (int down = 0; down < side; down++) {
                for (int across = 0; across < side; across++) {
                    int place = SIDE * (y * side + down) + x * side + across;
                    if (areaAt(row, layer, place) == area) {
                        count++;
                    }
                }
            }
            return count;
        }

        static int firstPlaceOf(int[] row, int layer, int area) {
            for (int place = 0; place < PLACES; place++) {
                if (areaAt(row, layer, place) == area) {
                    return place;
                }
            }
            return NONE;
        }

        /** How many squares of the level are not of one area, or without. */
        static int mixedSquares(int[] row, int layer, int level) {
            int squares = SIDE >> level;
            int side = 1 << level;
            int count = 0;
            for (int y = 0; y < squares; y++) {
                for (int x = 0; x < squares; x++) {
                    int corner = areaAt(row, layer, SIDE * y * side + x * side);
                    if (placesIn(row, layer, corner, level, x, y) < side * side) {
                        count++;
                    }
                }
            }
            return count;
        }

        static int unlikeSpots(int[] row, int[] other) {
            int count = 0;
            for (int spot = 0; spot < SPOTS; spot++) {
                if (valueIn(row, spot) != valueIn(other, spot)) {
                    count++;
                }
            }
            return count;
        }
    }

    /** A rule, looked at by going along the map. */
    private static final class Rule {
        final char kind;
        final int first;
        final int second;

        Rule(char kind, int first, int second) {
            this.kind = kind;
            this.first = first;
            this.second = second;
        }

        static boolean isRule(char kind, int first, int second) {
            if (kind == 'c' || kind == 'x') {
                return isLayer(first) && isLayer(second) && first != second;
            }
            if (kind == 'g' || kind == 'w') {
                return isLayer(first);
            }
            return kind == 'm';
        }

        boolean holdsIn(int[] row, Search search) {
            if (kind == 'w') {
                return areasHangTogether(row, search);
            }
            for (int place = 0; place < PLACES; place++) {
                if (isBrokenAt(row, place)) {
                    return false;
                }
            }
            return true;
        }

        private boolean isBrokenAt(int[] row, int place) {
            if (kind == 'm') {
                return !Grid.isAtEdge(place) && roadsAt(row, place) == 1;
            }
            boolean isFull = Grid.areaAt(row, first, place) != 0;
            if (kind == 'g') {
                return !isFull && isEnclosed(row, place);
            }
            boolean isOtherFull = Grid.areaAt(row, second, place) != 0;
            return isFull && isOtherFull == (kind == 'x');
        }

        private boolean isEnclosed(int[] row, int place) {
            for (int direction = 0; direction < Grid.DIRECTIONS; direction++) {
                int beside = Grid.beside(place, direction);
                if (beside != NONE && Grid.areaAt(row, first, beside) == 0) {
                    return false;
                }
            }
            return true;
        }

        private static int roadsAt(int[] row, int place) {
            int count = 0;
            for (int direction = 0; direction < Grid.DIRECTIONS; direction++) {
                int beside = Grid.beside(place, direction);
                if (beside != NONE && Grid.isRoadBetween(row, place, beside)) {
                    count++;
                }
            }
            return count;
        }

        private boolean areasHangTogether(int[] row, Search search) {
            for (int area = 1; area <= AREAS; area++) {
                int start = Grid.firstPlaceOf(row, first, area);
                if (start != NONE && search.spread(row, first, start) < Grid.placesOf(row, first, area)) {
                    return false;
                }
            }
            return true;
        }
    }

    /** Spreads from a place to the ones that are joined to it, the nearest first. */
    private static final class Search {
        /** Stands in the place of a layer. */
        static final int OVER_ROADS = -1;

        private final int[] queue = new int[PLACES];
        private final int[] steps = new int[PLACES];

        /** Spreads over roads, or over the like places of a layer; answers how many it reached. */
        int spread(int[] row, int layer, int start) {
            Arrays.fill(steps, NONE);
            if (start < 0 || start >= PLACES) {
                return 0;
            }
            queue[0] = start;
            steps[start] = 0;
            int reached = 1;
            for (int head = 0; head < reached && head < PLACES; head++) {
                int place = queue[head];
                for (int direction = 0; direction < Grid.DIRECTIONS; direction++) {
                    int beside = Grid.beside(place, direction);
                    boolean isJoined = beside != NONE && (layer == OVER_ROADS
                            ? Grid.isRoadBetween(row, place, beside)
                            : Grid.areaAt(row, layer, place) == Grid.areaAt(row, layer, beside));
                    if (isJoined && reached < PLACES && steps[beside] == NONE) {
                        steps[beside] = steps[place] + 1;
                        queue[reached] = beside;
                        reached++;
                    }
                }
            }
            return reached;
        }

        int stepsTo(int place) {
            return place >= 0 && place < PLACES ? steps[place] : NONE;
        }
    }

    /** Looks at a rule by all pairs of places, so that it shares no way of looking with Rule. */
    private static final class PairCheck {
        private final int[] groups = new int[PLACES];

        boolean holds(Rule rule, int[] row) {
            if (rule.kind == 'w') {
                gatherGroups(row, rule.first);
            }
            for (int place = 0; place < PLACES; place++) {
                if (isBrokenAt(rule, row, place)) {
                    return false;
                }
            }
            return true;
        }

        private boolean isBrokenAt(Rule rule, int[] row, int place) {
            int partners = 0;
            for (int other = 0; other < PLACES; other++) {
                if (isPartner(rule, row, place, other)) {
                    partners++;
                }
            }
            if (rule.kind == 'm') {
                return !Grid.isAtEdge(place) && partners == 1;
            }
            boolean isFull = Grid.areaAt(row, rule.first, place) != 0;
            if (rule.kind == 'g') {
                return !isFull && partners == 0;
            }
            return isFull && (rule.kind == 'c' ? partners == 0 : partners > 0);
        }

        /**
         * Of m, a place with a road to it; of g, one beside it without an area; of c and x, the
         * same place with an area in the second layer; of w, a like place that does not hang on it.
         */
        private boolean isPartner(Rule rule, int[] row, int place, int other) {
            if (rule.kind == 'm') {
                return Grid.isRoadBetween(row, place, other);
            }
            if (rule.kind == 'g') {
                return Grid.touch(place, other) && Grid.areaAt(row, rule.first, other) == 0;
            }
            if (rule.kind == 'w') {
                return isLike(row, rule.first, place, other) && groups[place] != groups[other];
            }
            return place == other && Grid.areaAt(row, rule.second, other) != 0;
        }

        /** Gives all places that hang together one group. */
        private void gatherGroups(int[] row, int layer) {
            for (int place = 0; place < PLACES; place++) {
                groups[place] = place;
            }
            for (int place = 0; place < PLACES; place++) {
                for (int other = 0; other < place; other++) {
                    if (Grid.touch(place, other) && isLike(row, layer, place, other)) {
                        join(groups[place], groups[other]);
                    }
                }
            }
        }

        private static boolean isLike(int[] row, int layer, int place, int other) {
            return Grid.areaAt(row, layer, place) == Grid.areaAt(row, layer, other);
        }

        private void join(int group, int other) {
            if (group == other) {
                return;
            }
            for (int place = 0; place < PLACES; place++) {
                if (groups[place] == group) {
                    groups[place] = other;
                }
            }
        }
    }

    /** A long edit, by spots: all its rows have a field for each. */
    private static final class Branch {
        /** Before the time of every note. */
        private static final int NEVER = -100000;

        boolean isOpen = false;
        private final int[] base = new int[SPOTS];
        /** The edit, or NONE. */
        private final int[] edit = new int[SPOTS];
        /** The value of the map over which it was told last that the edit counts, or NONE. */
        private final int[] countsOver = new int[SPOTS];
        /** The latest right time of a note that was brought, or NEVER. */
        private final int[] noted = new int[SPOTS];

        void begin(int[] map) {
            isOpen = true;
            System.arraycopy(map, 0, base, 0, SPOTS);
            Arrays.fill(edit, NONE);
            Arrays.fill(countsOver, NONE);
            Arrays.fill(noted, NEVER);
        }

        int sight(int spot) {
            return edit[spot] == NONE ? base[spot] : edit[spot];
        }

        void put(int spot, int value) {
            if (value == base[spot]) {
                takeAway(spot);
            } else {
                edit[spot] = value;
            }
        }

        void takeAway(int spot) {
            edit[spot] = NONE;
            countsOver[spot] = NONE;
        }

        void ownCountsOver(int spot, int value) {
            countsOver[spot] = value;
        }

        /** Answers whether the note was not dropped. */
        boolean bring(int spot, int area, int rightTime) {
            if (noted[spot] > rightTime) {
                return false;
            }
            noted[spot] = rightTime;
            put(spot, area);
            return true;
        }

        int editCount() {
            int count = 0;
            for (int spot = 0; spot < SPOTS; spot++) {
                if (edit[spot] != NONE) {
                    count++;
                }
            }
            return count;
        }

        boolean isConflict(int spot, int value) {
            return edit[spot] != NONE && value != base[spot] && value != edit[spot]
                    && value != countsOver[spot];
        }

        int conflictCount(int[] map) {
            int count = 0;
            for (int spot = 0; spot < SPOTS; spot++) {
                if (isConflict(spot, map[spot])) {
                    count++;
                }
            }
            return count;
        }

        /** The spot of the conflict, or NONE. */
        int conflictAt(int index, int[] map) {
            int before = 0;
            for (int spot = 0; spot < SPOTS; spot++) {
                if (isConflict(spot, map[spot])) {
                    if (before == index) {
                        return spot;
                    }
                    before++;
                }
            }
            return NONE;
        }

        /** Writes to the row what the map would be with the edits. */
        void writeOver(int[] map, int[] row) {
            for (int spot = 0; spot < SPOTS; spot++) {
                row[spot] = edit[spot] == NONE ? map[spot] : edit[spot];
            }
        }

        boolean hasIdleEdit() {
            for (int spot = 0; spot < SPOTS; spot++) {
                if (edit[spot] != NONE && edit[spot] == base[spot]) {
                    return true;
                }
            }
            return false;
        }
    }

    /** What a version brought, by spots: a value, or NONE where it left the map alone. */
    private static final class Step {
        final int[] values = new int[SPOTS];

        Step(int[] before, int[] after) {
            for (int spot = 0; spot < SPOTS; spot++) {
                values[spot] = before[spot] == after[spot] ? NONE : after[spot];
            }
        }
    }

    /** The steps to each version, and the merges that can be undone. */
    private static final class History {
        int newest = 0;
        /** By versions; the first one has no step. */
        private final Step[] steps = new Step[MOST_VERSIONS + 1];
        /** The versions of the merges that were not undone, the last one at the end. */
        private final int[] merges = new int[MOST_VERSIONS];
        private int mergeCount = 0;

        boolean isFull() {
            return newest >= MOST_VERSIONS;
        }

        void add(int[] before, int[] after) {
            if (isFull()) {
                return;
            }
            newest++;
            steps[newest] = new Step(before, after);
        }

        void rememberMerge() {
            if (mergeCount < MOST_VERSIONS) {
                merges[mergeCount] = newest;
                mergeCount++;
            }
        }

        void forgetMerge() {
            if (mergeCount > 0) {
                mergeCount--;
            }
        }

        /** The version of the last merge that was not undone, or NONE. */
        int lastMerge() {
            return mergeCount > 0 && mergeCount <= MOST_VERSIONS ? merges[mergeCount - 1] : NONE;
        }

        /** What the version brought to the spot, or NONE. */
        private int broughtBy(int version, int spot) {
            if (version < 0 || version > MOST_VERSIONS) {
                return NONE;
            }
            Step step = steps[version];
            return step == null ? NONE : step.values[spot];
        }

        int valueAt(int spot, int version) {
            for (int number = version; number > 0; number--) {
                int brought = broughtBy(number, spot);
                if (brought != NONE) {
                    return brought;
                }
            }
            return 0;
        }

        /** Writes to the row what the map was by the version. */
        void writeAt(int version, int[] row) {
            for (int spot = 0; spot < SPOTS; spot++) {
                row[spot] = valueAt(spot, version);
            }
        }

        int changeCount(int spot) {
            int count = 0;
            for (int number = 1; number <= newest; number++) {
                if (broughtBy(number, spot) != NONE) {
                    count++;
                }
            }
            return count;
        }

        /** The version of that change of the spot, or NONE. */
        int changeAt(int spot, int index) {
            int before = 0;
            for (int number = 1; number <= newest; number++) {
                if (broughtBy(number, spot) != NONE) {
                    if (before == index) {
                        return number;
                    }
                    before++;
                }
            }
            return NONE;
        }
    }

    /** The tiles that are kept, by levels: the scale is 2 to the power of the level. */
    private static final class Tiles {
        static final int LEVELS = 4;
        private static final int SLOTS_OF_LAYER = 85;
        private static final int[] FIRST_SLOTS = {0, 64, 80, 84};

        int makings = 0;
        /** The areas of the tiles, NONE for one that is not kept. */
        private final int[] areas = new int[LAYERS * SLOTS_OF_LAYER];

        Tiles() {
            Arrays.fill(areas, NONE);
        }

        /** The level of the scale, or NONE. */
        static int levelOf(int scale) {
            for (int level = 0; level < LEVELS; level++) {
                if (1 << level == scale) {
                    return level;
                }
            }
            return NONE;
        }

        static boolean isTile(int scale, int layer, int x, int y) {
            int level = levelOf(scale);
            if (level == NONE || !isLayer(layer)) {
                return false;
            }
            int last = (SIDE >> level) - 1;
            return isWithin(x, last) && isWithin(y, last);
        }

        private static int slotOf(int level, int layer, int x, int y) {
            int first = level >= 0 && level < LEVELS ? FIRST_SLOTS[level] : 0;
            return SLOTS_OF_LAYER * layer + first + (SIDE >> level) * y + x;
        }

        boolean holds(int level, int layer, int x, int y) {
            int slot = slotOf(level, layer, x, y);
            return slot >= 0 && slot < areas.length && areas[slot] != NONE;
        }

        int ask(int[] map, int level, int layer, int x, int y) {
            int slot = slotOf(level, layer, x, y);
            if (slot < 0 || slot >= areas.length) {
                return 0;
            }
            if (areas[slot] == NONE) {
                areas[slot] = mostCommonArea(map, level, layer, x, y);
                makings++;
            }
            return areas[slot];
        }

        private static int mostCommonArea(int[] map, int level, int layer, int x, int y) {
            int best = 0;
            int most = 0;
            for (int area = 0; area <= AREAS; area++) {
                int count = Grid.placesIn(map, layer, area, level, x, y);
                if (count > most) {
                    best = area;
                    most = count;
                }
            }
            return best;
        }

        /** Throws out the tiles over places at which the rows are unlike. */
        void throwOutUnlike(int[] row, int[] other) {
            for (int layer = 0; layer < LAYERS; layer++) {
                for (int place = 0; place < PLACES; place++) {
                    if (Grid.areaAt(row, layer, place) != Grid.areaAt(other, layer, place)) {
                        throwOutOver(layer, place % SIDE, place / SIDE);
                    }
                }
            }
        }

        private void throwOutOver(int layer, int x, int y) {
            for (int level = 0; level < LEVELS; level++) {
                int slot = slotOf(level, layer, x >> level, y >> level);
                if (slot >= 0 && slot < areas.length) {
                    areas[slot] = NONE;
                }
            }
        }

        boolean areRight(int[] map) {
            for (int layer = 0; layer < LAYERS; layer++) {
                for (int level = 0; level < LEVELS; level++) {
                    if (!areRightOn(map, level, layer)) {
                        return false;
                    }
                }
            }
            return true;
        }

        private boolean areRightOn(int[] map, int level, int layer) {
            int squares = SIDE >> level;
            for (int y = 0; y < squares; y++) {
                for (int x = 0; x < squares; x++) {
                    int slot = slotOf(level, layer, x, y);
                    if (holds(level, layer, x, y)
                            && areas[slot] != mostCommonArea(map, level, layer, x, y)) {
                        return false;
                    }
                }
            }
            return true;
        }
    }

    /** The one walk; it holds no places, so that each step looks at the map by then. */
    private static final class Walk {
        boolean isBegun = false;
        int last = NONE;
        private int layer = 0;
        private int area = 0;

        void begin(int newLayer, int newArea) {
            isBegun = true;
            last = NONE;
            layer = newLayer;
            area = newArea;
        }

        /** The place of the next step, or NONE. */
        int placeAhead(int[] map) {
            if (!isBegun) {
                return NONE;
            }
            for (int place = last + 1; place < PLACES; place++) {
                if (Grid.areaAt(map, layer, place) == area) {
                    return place;
                }
            }
            return NONE;
        }
    }

    /** A device in the field. */
    private static final class Device {
        int count = 0;
        int lead = 0;
        private final int[] times = new int[MOST_NOTES];
        private final int[] spots = new int[MOST_NOTES];
        private final int[] areas = new int[MOST_NOTES];

        boolean isFull() {
            return count >= MOST_NOTES;
        }

        /** Adds a note behind those of no later time: right times have the order of the clock's. */
        void add(int time, int spot, int area) {
            if (count < 0 || isFull()) {
                return;
            }
            int index = count;
            while (index > 0 && times[index - 1] > time) {
                times[index] = times[index - 1];
                spots[index] = spots[index - 1];
                areas[index] = areas[index - 1];
                index--;
            }
            times[index] = time;
            spots[index] = spot;
            areas[index] = area;
            count++;
        }

        /** Brings all notes to the branch; answers how many were not dropped. */
        int bringTo(Branch branch, int newLead) {
            lead = newLead;
            int brought = 0;
            for (int index = 0; index < count && index < MOST_NOTES; index++) {
                if (branch.bring(spots[index], areas[index], times[index] - lead)) {
                    brought++;
                }
            }
            count = 0;
            return brought;
        }
    }
}
