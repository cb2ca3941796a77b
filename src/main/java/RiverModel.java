import java.util.Arrays;

/** Rivers modelled from a small language of stores, leaks, gates and reaches; README.md says how to use it. */
public final class RiverModel {
    public static final int BAD = -1, NO = -2, FULL = -3, NONE = -4;

    private static final long BLAME_BAD = -1000000000000000000L;
    private static final long BLAME_NO = -1000000000000000001L;
    private static final int SEE_BAD = -100, SEE_NO = -102;
    private static final int GAP = -1;

    private static final int TEXT_MOST = 400, ITEMS_MOST = 40, STORES_MOST = 16, GATES_MOST = 4;
    private static final int FIGURES_MOST = 7, WATER_MOST = 1000000, TRAVEL_MOST = 12;
    private static final int HOURS_MOST = 96, AHEAD_MOST = 24, KEPT_MOST = 3;
    private static final int RAIN_MOST = 10000, TEMP_LEAST = -30, TEMP_MOST = 40, TEMP_FIRST = 10;
    private static final int OPENING_MOST = 10, OPENING_FIRST = 5;
    private static final int GAUGES_MOST = 4, SEEN_MOST = 10000000, ENDS_MOST = 100000;
    private static final int KNOBS_MOST = 2, KNOB_POINTS_MOST = 16;
    private static final int WORLDS_MOST = 4, WEIGHT_MOST = 100;
    private static final int BLOCKS = 4, BLOCK_HOURS_MOST = 6, OPENING_STEP = 2;

    // An ITEM is a row: its kind's byte, its two NAMES and its three numbers, NONE where it has none.
    private static final int KIND = 0, FIRST_NAME = 1, SECOND_NAME = 2, FIRST_NUMBER = 3, ROW = 6;

    private final Text text = new Text();
    private Model model = new Model();
    private Model draft = new Model();
    private final Model other = new Model();
    private boolean isBuilt = false;
    private boolean isOtherLaid = false;

    private final Sky skyA = new Sky();
    private final Sky skyB = new Sky();
    private final int[] startsB = new int[STORES_MOST];

    private final Course now = new Course();
    private final Course trial = new Course();
    private final Course second = new Course();
    private final Course[] kept = new Course[KEPT_MOST];
    private int keptMany = 0;

    private final Gauges gauges = new Gauges();
    private final Knobs knobs = new Knobs();
    private final Worlds worlds = new Worlds();
    private final Search search = new Search();

    public RiverModel() {
        for (int k = 0; k < KEPT_MOST; k++) {
            kept[k] = new Course();
        }
    }

    // ---- texts

    public int write(int n, long v) {
        if (isOutside(n, 1, 8)) {
            return BAD;
        }
        if (text.length + n > TEXT_MOST) {
            return FULL;
        }
        text.append(n, v);
        return text.length;
    }

    public int clear() {
        int was = text.length;
        text.length = 0;
        return was;
    }

    public int fault() {
        return text.readInto(draft);
    }

    public int build() {
        if (text.readInto(draft) != NONE || draft.stores == 0) {
            return NO;
        }
        gauges.unsetAll();
        knobs.unsetAll();
        draftBecomesModel();
        return model.many;
    }

    public int item(int i, int what) {
        if (isNoItem(i) || isOutside(what, 0, ROW - 1)) {
            return BAD;
        }
        return lacksItem(i) ? NO : model.cell(i, what);
    }

    // ---- weather, runs

    public int weather(int w, int hour, int rain, int temp) {
        if (isOutside(w, 0, 1) || isOutside(hour, 0, HOURS_MOST - 1)) {
            return BAD;
        }
        if (isOutside(rain, 0, RAIN_MOST) || isOutside(temp, TEMP_LEAST, TEMP_MOST)) {
            return BAD;
        }
        Sky sky = w == 0 ? skyA : skyB;
        sky.rains[hour] = rain;
        sky.temps[hour] = temp;
        return 0;
    }

    public int anew() {
        if (!isBuilt) {
            return NO;
        }
        int were = now.hours;
        now.begin(model);
        return were;
    }

    public int run(int n) {
        if (isOutside(n, 1, HOURS_MOST)) {
            return BAD;
        }
        if (!isBuilt) {
            return NO;
        }
        if (now.hours + n > HOURS_MOST) {
            return FULL;
        }
        for (int k = 0; k < n; k++) {
            now.goHourBy(model, skyA);
        }
        return now.hours;
    }

    public long has(int store, int what) {
        if (isNoStore(store) || isOutside(what, 0, 1)) {
            return BAD;
        }
        if (lacksStore(store)) {
            return NO;
        }
        return what == 0 ? now.held[store] : now.underWayTo(store);
    }

    public long flow(int item) {
        if (isNoItem(item)) {
            return BAD;
        }
        return lacksItem(item) || now.hours == 0 ? NO : now.moved[item];
    }

    public int gate(int gate, int v) {
        if (isNoGate(gate) || isOutside(v, 0, OPENING_MOST)) {
            return BAD;
        }
        if (lacksGate(gate)) {
            return NO;
        }
        int was = now.openings[gate];
        now.openings[gate] = v;
        return was;
    }

    public long book(int what) {
        if (isOutside(what, 0, 5)) {
            return BAD;
        }
        if (!isBuilt) {
            return NO;
        }
        switch (what) {
            case 0: return now.rained;
            case 1: return now.air;
            case 2: return now.sea;
            case 3: return now.heldByAll();
            case 4: return now.underWayToAll();
            default: return model.startOfAll();
        }
    }

    // ---- gauges, fits

    public int gauge(int k, int what, int i) {
        if (isNoGauge(k) || isOutside(what, 0, 1)) {
            return BAD;
        }
        if (what == 0 ? isNoItem(i) : isNoStore(i)) {
            return BAD;
        }
        if (what == 0 ? lacksItem(i) : lacksStore(i)) {
            return NO;
        }
        gauges.set(k, what, i);
        return 0;
    }

    public long reads(int k) {
        if (isNoGauge(k)) {
            return BAD;
        }
        return lacksGauge(k) || now.hours == 0 ? NO : gauges.reading(now, k);
    }

    public int see(int k, int hour, int v) {
        if (isNoGauge(k) || isOutside(hour, 0, HOURS_MOST - 1) || isOutside(v, GAP, SEEN_MOST)) {
            return SEE_BAD;
        }
        return lacksGauge(k) ? SEE_NO : gauges.putSeen(k, hour, v);
    }

    public int ends(int v) {
        if (isOutside(v, 0, ENDS_MOST)) {
            return BAD;
        }
        int were = gauges.mayBeOff;
        gauges.mayBeOff = v;
        return were;
    }

    public int knob(int k, int i, int j, int from, int step, int many) {
        if (isNoKnob(k) || isNoItem(i) || isOutside(j, 0, 2)) {
            return BAD;
        }
        if (isOutside(from, 0, WATER_MOST) || isOutside(step, 1, WATER_MOST) || isOutside(many, 0, KNOB_POINTS_MOST)) {
            return BAD;
        }
        if (lacksItem(i) || !model.hasNumber(i, j)) {
            return NO;
        }
        knobs.set(k, i, j, from, step, many);
        return 0;
    }

    public int fits() {
        if (!isBuilt) {
            return NO;
        }
        int holding = 0;
        int points = knobs.points();
        for (int point = 0; point < points; point++) {
            if (pointHolds(point)) {
                holding++;
            }
        }
        return holding;
    }

    public int fit(int i, int k) {
        if (i < 0 || isNoKnob(k)) {
            return BAD;
        }
        if (!isBuilt) {
            return NO;
        }
        int point = knobs.isSet(k) ? holdingPoint(i) : NONE;
        return point == NONE ? NONE : knobs.numberAt(k, point);
    }

    public int take(int i) {
        if (i < 0) {
            return BAD;
        }
        if (!isBuilt) {
            return NO;
        }
        if (holdingPoint(i) == NONE) {
            return NONE;
        }
        draftBecomesModel();
        return 0;
    }

    // ---- worlds

    public int weigh(int world, int w) {
        if (isNoWorld(world) || isOutside(w, 0, WEIGHT_MOST)) {
            return BAD;
        }
        int was = worlds.weights[world];
        worlds.weights[world] = w;
        return was;
    }

    public int rain(int world, int i, int v) {
        if (isNoWorld(world) || isOutside(i, 0, AHEAD_MOST - 1) || isOutside(v, 0, RAIN_MOST)) {
            return BAD;
        }
        return worlds.putRain(world, i, v);
    }

    public int chance(int gauge, int n, long level) {
        if (isNoGauge(gauge) || isOutside(n, 1, AHEAD_MOST)) {
            return BAD;
        }
        return lacksGauge(gauge) || isBeyond(n) ? NO : weightAbove(gauge, n, level);
    }

    public int warn(int gauge, int n, long level, int t) {
        if (isNoGauge(gauge) || isOutside(n, 1, AHEAD_MOST) || isOutside(t, 0, 100)) {
            return BAD;
        }
        if (lacksGauge(gauge) || isBeyond(n)) {
            return NO;
        }
        boolean isGiven = weightAbove(gauge, n, level) * 100 >= t * worlds.weightOfAll();
        boolean isSo = peakAhead(gauge, n, -1) > level;
        worlds.enter(isGiven, isSo);
        return isGiven ? 1 : 0;
    }

    public int booked(int what) {
        return isOutside(what, 0, 3) ? BAD : worlds.warnings[what];
    }

    public long peak(int gauge, int n, int world) {
        if (isNoGauge(gauge) || isOutside(n, 1, AHEAD_MOST) || isOutside(world, -1, WORLDS_MOST - 1)) {
            return BAD;
        }
        return lacksGauge(gauge) || isBeyond(n) ? NO : peakAhead(gauge, n, world);
    }

    public long best(int gate, int b, int gauge, int store, long limit, int i) {
        if (isNoGate(gate) || isOutside(b, 1, BLOCK_HOURS_MOST) || isNoGauge(gauge)) {
            return BAD;
        }
        if (isNoStore(store) || isOutside(i, -1, BLOCKS - 1)) {
            return BAD;
        }
        if (lacksGate(gate) || lacksGauge(gauge) || lacksStore(store) || isBeyond(BLOCKS * b)) {
            return NO;
        }
        search.prepare(gate, b, gauge, store, limit);
        search.tryBlock(model, skyA, gauges, now, 0, 0);
        if (!search.isFound) {
            return NONE;
        }
        return i < 0 ? search.leastPeak : search.found[i];
    }

    // ---- swaps, blames

    public int swap(int i) {
        if (isNoItem(i)) {
            return BAD;
        }
        if (lacksItem(i) || !text.readAlone() || !model.mayReplace(i, text.row)) {
            return NO;
        }
        other.copyFrom(model);
        other.put(i, text.row);
        isOtherLaid = true;
        return 0;
    }

    public long swapped(int gauge, int n, int what) {
        if (isNoGauge(gauge) || isOutside(n, 1, HOURS_MOST) || isOutside(what, 0, 1)) {
            return BAD;
        }
        if (!isOtherLaid || lacksGauge(gauge)) {
            return NO;
        }
        trial.begin(model);
        second.begin(other);
        long sum = 0;
        for (int hour = 0; hour < n; hour++) {
            trial.goHourBy(model, skyA);
            second.goHourBy(other, skyA);
            long more = gauges.reading(second, gauge) - gauges.reading(trial, gauge);
            if (what == 0 && more != 0) {
                return hour;
            }
            sum += more;
        }
        return what == 0 ? NONE : sum;
    }

    public int laySwap() {
        if (!isOtherLaid) {
            return NO;
        }
        draft.copyFrom(other);
        draftBecomesModel();
        return 0;
    }

    public int startB(int store, int v) {
        if (isNoStore(store) || isOutside(v, 0, WATER_MOST)) {
            return BAD;
        }
        if (lacksStore(store)) {
            return NO;
        }
        int was = startsB[store];
        startsB[store] = v;
        return was;
    }

    public long blame(int gauge, int h, int part) {
        if (isNoGauge(gauge) || isOutside(h, 0, HOURS_MOST - 1) || isOutside(part, 0, 3)) {
            return BLAME_BAD;
        }
        if (lacksGauge(gauge)) {
            return BLAME_NO;
        }
        if (part == 3) {
            return changedReading(3, gauge, h) - changedReading(0, gauge, h);
        }
        return changedReading(part + 1, gauge, h) - changedReading(part, gauge, h);
    }

    public int keep() {
        if (!isBuilt) {
            return NO;
        }
        if (keptMany >= KEPT_MOST) {
            return FULL;
        }
        kept[keptMany].copyFrom(now);
        keptMany++;
        return keptMany;
    }

    public int back() {
        if (isOutside(keptMany, 1, KEPT_MOST)) {
            return NO;
        }
        keptMany--;
        now.copyFrom(kept[keptMany]);
        return keptMany;
    }

    public int count(int what) {
        switch (what) {
            case 0: return text.length;
            case 1: return isBuilt ? model.many : 0;
            case 2: return isBuilt ? model.stores : 0;
            case 3: return isBuilt ? model.gates : 0;
            case 4: return now.hours;
            case 5: return knobs.setMany();
            case 6: return gauges.setMany();
            case 7: return gauges.seenMany();
            case 8: return keptMany;
            default: return BAD;
        }
    }

    // ---- what a number may be, and what THE MODEL has

    private static boolean isOutside(int v, int least, int most) {
        return v < least || v > most;
    }

    private static boolean isNoItem(int i) {
        return i < 0 || i >= ITEMS_MOST;
    }

    private static boolean isNoStore(int store) {
        return store < 0 || store >= STORES_MOST;
    }

    private static boolean isNoGate(int gate) {
        return gate < 0 || gate >= GATES_MOST;
    }

    private static boolean isNoGauge(int k) {
        return k < 0 || k >= GAUGES_MOST;
    }

    private static boolean isNoKnob(int k) {
        return k < 0 || k >= KNOBS_MOST;
    }

    private static boolean isNoWorld(int world) {
        return world < 0 || world >= WORLDS_MOST;
    }

    private boolean lacksItem(int i) {
        return !isBuilt || i >= model.many;
    }

    private boolean lacksStore(int store) {
        return !isBuilt || !model.hasStore(store);
    }

    private boolean lacksGate(int gate) {
        return !isBuilt || gate >= model.gates;
    }

    private boolean lacksGauge(int k) {
        return !isBuilt || !gauges.isSet(k);
    }

    private boolean isBeyond(int hoursAhead) {
        return now.hours + hoursAhead > HOURS_MOST;
    }

    // ---- what several calls share

    /** The two change places, so that no call has to make a model. */
    private void draftBecomesModel() {
        Model old = model;
        model = draft;
        draft = old;
        isBuilt = true;
        isOtherLaid = false;
        keptMany = 0;
        now.begin(model);
        for (int store = 0; store < STORES_MOST; store++) {
            startsB[store] = model.startOf(store);
        }
    }

    /** Leaves the lattice point's FIT in the draft. */
    private boolean pointHolds(int point) {
        draft.copyFrom(model);
        if (!knobs.lay(point, draft)) {
            return false;
        }
        trial.begin(draft);
        int last = gauges.lastSeen();
        for (int hour = 0; hour <= last; hour++) {
            trial.goHour(draft, skyA.rainIn(hour), skyA.tempIn(hour));
            if (!gauges.agree(trial, hour)) {
                return false;
            }
        }
        return true;
    }

    /** The lattice point of the i-th FIT that HOLDS, which is in the draft then; or NONE. */
    private int holdingPoint(int i) {
        int before = 0;
        int points = knobs.points();
        for (int point = 0; point < points; point++) {
            if (pointHolds(point)) {
                if (before == i) {
                    return point;
                }
                before++;
            }
        }
        return NONE;
    }

    /** World -1 is WEATHER A itself. The least is 0, as no reading is below it. */
    private long peakAhead(int gauge, int n, int world) {
        trial.copyFrom(now);
        long greatest = 0;
        for (int ahead = 0; ahead < n; ahead++) {
            int hour = trial.hours;
            int rain = world < 0 ? skyA.rainIn(hour) : worlds.rainAhead(world, ahead);
            trial.goHour(model, rain, skyA.tempIn(hour));
            greatest = Math.max(greatest, gauges.reading(trial, gauge));
        }
        return greatest;
    }

    private int weightAbove(int gauge, int n, long level) {
        int sum = 0;
        for (int world = 0; world < WORLDS_MOST; world++) {
            int weight = worlds.weights[world];
            if (weight > 0 && peakAhead(gauge, n, world) > level) {
                sum += weight;
            }
        }
        return sum;
    }

    /** R0 to R3: of WEATHER, START and ITEM as many are changed as changes says. */
    private long changedReading(int changes, int gauge, int h) {
        Model by = changes >= 3 && isOtherLaid ? other : model;
        Sky sky = changes >= 1 ? skyB : skyA;
        trial.begin(by);
        if (changes >= 2) {
            trial.startFrom(startsB);
        }
        for (int hour = 0; hour <= h; hour++) {
            trial.goHourBy(by, sky);
        }
        return gauges.reading(trial, gauge);
    }

    /** What is told of an ITEM's kind. */
    private static final class Kinds {
        /** 0: there is no such kind. */
        static int namesOf(int kind) {
            switch (kind) {
                case 'l': case 'o': case 'm': case 'g': case 't': return 2;
                case 's': case 'r': case 'n': case 'e': case 'z': return 1;
                default: return 0;
            }
        }

        static int numbersOf(int kind) {
            switch (kind) {
                case 'l': return 3;
                case 's': return 2;
                case 'm': case 'g': case 't': case 'r': case 'n': case 'e': return 1;
                default: return 0;
            }
        }

        static boolean areNumbersAsTold(int kind, int first, int middle, int third) {
            switch (kind) {
                case 's': return isUpTo(first, WATER_MOST) && isUpTo(middle, WATER_MOST);
                case 'l': return middle >= 1 && isUpTo(middle, 1000) && isUpTo(first, middle) && isUpTo(third, WATER_MOST);
                case 'm': case 'e': return isUpTo(first, 1000);
                case 'g': return isUpTo(first, 10000);
                case 't': return first >= 1 && isUpTo(first, TRAVEL_MOST);
                case 'r': case 'n': return isUpTo(first, 100);
                default: return true;
            }
        }

        private static boolean isUpTo(int v, int most) {
            return v >= 0 && v <= most;
        }
    }

    /** THE TEXT, and the ITEM that was read from it last. */
    private static final class Text {
        final int[] bytes = new int[TEXT_MOST];
        final int[] row = new int[ROW];
        int length = 0;
        private int at = 0;

        void append(int n, long v) {
            for (int k = n - 1; k >= 0 && length < TEXT_MOST; k--) {
                bytes[length] = (int) (v >>> (8 * k)) & 255;
                length++;
            }
        }

        /** Answers FAULT; the model has the ITEMS ahead of it. */
        int readInto(Model into) {
            into.empty();
            at = 0;
            for (int k = 0; k <= ITEMS_MOST && at < length; k++) {
                int first = at;
                if (k == ITEMS_MOST || !readItem() || !into.mayFollow(row)) {
                    return first;
                }
                into.add(row);
            }
            return NONE;
        }

        /** Whether the whole TEXT is one ITEM by its letters; its names and numbers are yet to be looked at. */
        boolean readAlone() {
            at = 0;
            return readItem() && at == length;
        }

        private boolean readItem() {
            Arrays.fill(row, NONE);
            int kind = nextByte();
            row[KIND] = kind;
            int names = Kinds.namesOf(kind);
            for (int k = 0; k < names; k++) {
                if (!readName(FIRST_NAME + k)) {
                    return false;
                }
            }
            int numbers = Kinds.numbersOf(kind);
            for (int j = 0; j < numbers; j++) {
                if (!readNumber(FIRST_NUMBER + j)) {
                    return false;
                }
            }
            return names > 0 && nextByte() == ';';
        }

        private boolean readName(int cell) {
            int name = nextByte() - 'a';
            row[cell] = name;
            return !isNoStore(name);
        }

        private boolean readNumber(int cell) {
            if (nextByte() != ',') {
                return false;
            }
            int number = 0;
            int figures = 0;
            while (figures < FIGURES_MOST && isAtFigure()) {
                number = number * 10 + nextByte() - '0';
                figures++;
            }
            row[cell] = number;
            return figures > 0;
        }

        private boolean isAtFigure() {
            return at < length && !isOutside(bytes[at], '0', '9');
        }

        /** -1, which no byte is, behind the end. */
        private int nextByte() {
            if (at >= length) {
                return -1;
            }
            at++;
            return bytes[at - 1];
        }
    }

    /** ITEMS in their order, and where the STORES and GATES are among them. */
    private static final class Model {
        private final int[] cells = new int[ITEMS_MOST * ROW];
        private final int[] storeItems = new int[STORES_MOST];
        private final int[] gateItems = new int[GATES_MOST];
        int many = 0;
        int stores = 0;
        int gates = 0;

        void empty() {
            many = 0;
            stores = 0;
            gates = 0;
            Arrays.fill(storeItems, NONE);
            Arrays.fill(gateItems, NONE);
        }

        void copyFrom(Model from) {
            System.arraycopy(from.cells, 0, cells, 0, cells.length);
            System.arraycopy(from.storeItems, 0, storeItems, 0, STORES_MOST);
            System.arraycopy(from.gateItems, 0, gateItems, 0, GATES_MOST);
            many = from.many;
            stores = from.stores;
            gates = from.gates;
        }

        int cell(int i, int what) {
            return i < 0 || i >= ITEMS_MOST || what < 0 || what >= ROW ? NONE : cells[i * ROW + what];
        }

        void putCell(int i, int what, int v) {
            if (!isNoItem(i) && !isOutside(what, 0, ROW - 1)) {
                cells[i * ROW + what] = v;
            }
        }

        void put(int i, int[] row) {
            for (int what = 0; what < ROW; what++) {
                putCell(i, what, row[what]);
            }
        }

        void add(int[] row) {
            if (many >= ITEMS_MOST) {
                return;
            }
            put(many, row);
            if (row[KIND] == 's' && !isNoStore(row[FIRST_NAME])) {
                storeItems[row[FIRST_NAME]] = many;
                stores++;
            }
            if (row[KIND] == 'g' && gates < GATES_MOST) {
                gateItems[gates] = many;
                gates++;
            }
            many++;
        }

        boolean mayFollow(int[] row) {
            if (row[KIND] == 's') {
                return areNumbersAsTold(row) && !hasStore(row[FIRST_NAME]);
            }
            return areNumbersAsTold(row) && areNamesAhead(row, many) && (row[KIND] != 'g' || gates < GATES_MOST);
        }

        boolean mayReplace(int i, int[] row) {
            int kind = cell(i, KIND);
            if (kind == 's' || row[KIND] == 's') {
                return areNumbersAsTold(row) && kind == row[KIND] && cell(i, FIRST_NAME) == row[FIRST_NAME];
            }
            return areNumbersAsTold(row) && areNamesAhead(row, i) && (kind == 'g') == (row[KIND] == 'g');
        }

        private static boolean areNumbersAsTold(int[] row) {
            return Kinds.areNumbersAsTold(row[KIND], row[FIRST_NUMBER], row[FIRST_NUMBER + 1], row[FIRST_NUMBER + 2]);
        }

        private boolean areNamesAhead(int[] row, int i) {
            int n = row[FIRST_NAME];
            int m = row[SECOND_NAME];
            return isStoreAhead(n, i) && (m == NONE || m != n && isStoreAhead(m, i));
        }

        private boolean isStoreAhead(int store, int i) {
            return hasStore(store) && storeItems[store] < i;
        }

        boolean hasStore(int store) {
            return store >= 0 && store < STORES_MOST && storeItems[store] != NONE;
        }

        boolean hasNumber(int i, int j) {
            return j >= 0 && j < Kinds.numbersOf(cell(i, KIND));
        }

        boolean isItemAsTold(int i) {
            return Kinds.areNumbersAsTold(cell(i, KIND), cell(i, FIRST_NUMBER), cell(i, FIRST_NUMBER + 1), cell(i, FIRST_NUMBER + 2));
        }

        int capacityOf(int store) {
            return hasStore(store) ? cell(storeItems[store], FIRST_NUMBER) : 0;
        }

        int startOf(int store) {
            return hasStore(store) ? cell(storeItems[store], FIRST_NUMBER + 1) : 0;
        }

        long startOfAll() {
            long sum = 0;
            for (int store = 0; store < STORES_MOST; store++) {
                sum += startOf(store);
            }
            return sum;
        }

        /** NONE: the ITEM is no GATE. */
        int gateOf(int i) {
            for (int gate = 0; gate < gates; gate++) {
                if (gateItems[gate] == i) {
                    return gate;
                }
            }
            return NONE;
        }
    }

    /** WEATHER: RAIN and TEMP of all HOURS. */
    private static final class Sky {
        final int[] rains = new int[HOURS_MOST];
        final int[] temps = new int[HOURS_MOST];

        Sky() {
            Arrays.fill(temps, TEMP_FIRST);
        }

        int rainIn(int hour) {
            return isOutside(hour, 0, HOURS_MOST - 1) ? 0 : rains[hour];
        }

        int tempIn(int hour) {
            return isOutside(hour, 0, HOURS_MOST - 1) ? TEMP_FIRST : temps[hour];
        }
    }

    /** A RUN: THE RUN, a KEPT one or a trial. */
    private static final class Course {
        // What is under way lies in a ring of HOURS; one more than the longest travel keeps each HOUR apart.
        private static final int RING = TRAVEL_MOST + 1;

        final long[] held = new long[STORES_MOST];
        final long[] moved = new long[ITEMS_MOST];
        final int[] openings = new int[GATES_MOST];
        private final long[] due = new long[RING * STORES_MOST];
        long rained = 0;
        long air = 0;
        long sea = 0;
        int hours = 0;

        void begin(Model by) {
            for (int store = 0; store < STORES_MOST; store++) {
                held[store] = by.startOf(store);
            }
            Arrays.fill(moved, 0L);
            Arrays.fill(openings, OPENING_FIRST);
            Arrays.fill(due, 0L);
            rained = 0;
            air = 0;
            sea = 0;
            hours = 0;
        }

        void startFrom(int[] starts) {
            for (int store = 0; store < STORES_MOST && store < starts.length; store++) {
                held[store] = starts[store];
            }
        }

        void copyFrom(Course from) {
            System.arraycopy(from.held, 0, held, 0, STORES_MOST);
            System.arraycopy(from.moved, 0, moved, 0, ITEMS_MOST);
            System.arraycopy(from.openings, 0, openings, 0, GATES_MOST);
            System.arraycopy(from.due, 0, due, 0, due.length);
            rained = from.rained;
            air = from.air;
            sea = from.sea;
            hours = from.hours;
        }

        void goHourBy(Model by, Sky sky) {
            goHour(by, sky.rainIn(hours), sky.tempIn(hours));
        }

        void goHour(Model by, int rain, int temp) {
            bringDue();
            for (int i = 0; i < by.many && i < ITEMS_MOST; i++) {
                long amount = amountOf(by, i, rain, temp);
                moved[i] = amount;
                move(by, i, amount);
            }
            hours++;
        }

        private void bringDue() {
            int slot = hours % RING * STORES_MOST;
            for (int store = 0; store < STORES_MOST; store++) {
                held[store] += due[slot + store];
                due[slot + store] = 0;
            }
        }

        private long amountOf(Model by, int i, int rain, int temp) {
            int n = by.cell(i, FIRST_NAME);
            if (isNoStore(n)) {
                return 0;
            }
            long there = held[n];
            long number = by.cell(i, FIRST_NUMBER);
            boolean isWarm = temp > 0;
            switch (by.cell(i, KIND)) {
                case 'l': return leakOf(there, number, by.cell(i, FIRST_NUMBER + 1), by.cell(i, FIRST_NUMBER + 2));
                case 'o': return Math.max(0L, there - by.capacityOf(n));
                case 'm': return isWarm ? Math.min(there, temp * number) : 0;
                case 'g': return Math.min(there, openingOf(by.gateOf(i)) * number);
                case 't': case 'z': return there;
                case 'r': return isWarm ? rain * number / 100 : 0;
                case 'n': return isWarm ? 0 : rain * number / 100;
                case 'e': return isWarm ? Math.min(there, temp * number / 10) : 0;
                default: return 0;
            }
        }

        private static long leakOf(long there, long p, long q, long h) {
            return there > h && q > 0 ? (there - h) * p / q : 0;
        }

        private long openingOf(int gate) {
            return isNoGate(gate) ? 0 : openings[gate];
        }

        private void move(Model by, int i, long amount) {
            int n = by.cell(i, FIRST_NAME);
            int m = by.cell(i, SECOND_NAME);
            int kind = by.cell(i, KIND);
            if (kind == 's' || isNoStore(n)) {
                return;
            }
            if (kind == 'r' || kind == 'n') {
                held[n] += amount;
                rained += amount;
                return;
            }
            held[n] -= amount;
            if (kind == 'e') {
                air += amount;
            } else if (kind == 'z') {
                sea += amount;
            } else if (kind == 't') {
                send(m, by.cell(i, FIRST_NUMBER), amount);
            } else if (!isNoStore(m)) {
                held[m] += amount;
            }
        }

        private void send(int store, int travel, long amount) {
            if (!isNoStore(store) && !isOutside(travel, 1, TRAVEL_MOST)) {
                due[(hours + travel) % RING * STORES_MOST + store] += amount;
            }
        }

        long heldByAll() {
            long sum = 0;
            for (int store = 0; store < STORES_MOST; store++) {
                sum += held[store];
            }
            return sum;
        }

        long underWayTo(int store) {
            long sum = 0;
            for (int slot = 0; slot < RING && !isNoStore(store); slot++) {
                sum += due[slot * STORES_MOST + store];
            }
            return sum;
        }

        long underWayToAll() {
            long sum = 0;
            for (int k = 0; k < due.length; k++) {
                sum += due[k];
            }
            return sum;
        }
    }

    /** GAUGES, what they have SEEN, and ENDS. */
    private static final class Gauges {
        private final int[] whats = new int[GAUGES_MOST];
        private final int[] places = new int[GAUGES_MOST];
        private final int[] seen = new int[GAUGES_MOST * HOURS_MOST];
        int mayBeOff = 0;

        Gauges() {
            Arrays.fill(whats, NONE);
            Arrays.fill(seen, GAP);
        }

        void unsetAll() {
            Arrays.fill(whats, NONE);
            Arrays.fill(seen, GAP);
        }

        void set(int k, int what, int place) {
            if (isNoGauge(k)) {
                return;
            }
            whats[k] = what;
            places[k] = place;
            for (int hour = 0; hour < HOURS_MOST; hour++) {
                seen[k * HOURS_MOST + hour] = GAP;
            }
        }

        boolean isSet(int k) {
            return k >= 0 && k < GAUGES_MOST && whats[k] != NONE;
        }

        /** What a GAUGE that is set reads in the RUN's last HOUR. */
        long reading(Course course, int k) {
            if (!isSet(k)) {
                return 0;
            }
            int place = places[k];
            if (whats[k] == 0) {
                return isNoItem(place) ? 0 : course.moved[place];
            }
            return isNoStore(place) ? 0 : course.held[place];
        }

        int putSeen(int k, int hour, int v) {
            if (isNoGauge(k) || isOutside(hour, 0, HOURS_MOST - 1)) {
                return GAP;
            }
            int was = seen[k * HOURS_MOST + hour];
            seen[k * HOURS_MOST + hour] = v;
            return was;
        }

        /** Whether all that is SEEN in the HOUR is off by ENDS at most. */
        boolean agree(Course course, int hour) {
            for (int k = 0; k < GAUGES_MOST && hour < HOURS_MOST; k++) {
                int v = seen[k * HOURS_MOST + hour];
                if (v != GAP && Math.abs(reading(course, k) - v) > mayBeOff) {
                    return false;
                }
            }
            return true;
        }

        /** -1: nothing is SEEN. */
        int lastSeen() {
            int last = -1;
            for (int k = 0; k < seen.length; k++) {
                if (seen[k] != GAP) {
                    last = Math.max(last, k % HOURS_MOST);
                }
            }
            return last;
        }

        int setMany() {
            int many = 0;
            for (int k = 0; k < GAUGES_MOST; k++) {
                many += isSet(k) ? 1 : 0;
            }
            return many;
        }

        int seenMany() {
            int many = 0;
            for (int k = 0; k < seen.length; k++) {
                many += seen[k] != GAP ? 1 : 0;
            }
            return many;
        }
    }

    /** KNOBS and their lattice; a point's number counts KNOB 1's numbers fastest. */
    private static final class Knobs {
        private final int[] items = new int[KNOBS_MOST];
        private final int[] numbers = new int[KNOBS_MOST];
        private final int[] froms = new int[KNOBS_MOST];
        private final int[] steps = new int[KNOBS_MOST];
        private final int[] manys = new int[KNOBS_MOST];

        void unsetAll() {
            Arrays.fill(manys, 0);
        }

        void set(int k, int item, int number, int from, int step, int many) {
            if (isNoKnob(k)) {
                return;
            }
            items[k] = item;
            numbers[k] = number;
            froms[k] = from;
            steps[k] = step;
            manys[k] = many;
        }

        boolean isSet(int k) {
            return k >= 0 && k < KNOBS_MOST && manys[k] > 0;
        }

        int setMany() {
            return (isSet(0) ? 1 : 0) + (isSet(1) ? 1 : 0);
        }

        int points() {
            return pointsOf(0) * pointsOf(1);
        }

        private int pointsOf(int k) {
            return isSet(k) ? manys[k] : 1;
        }

        int numberAt(int k, int point) {
            if (isNoKnob(k)) {
                return NONE;
            }
            int fast = Math.max(1, pointsOf(1));
            return froms[k] + steps[k] * (k == 0 ? point / fast : point % fast);
        }

        /** Puts the point's numbers into the model; false if an ITEM is not as told by that. */
        boolean lay(int point, Model into) {
            for (int k = 0; k < KNOBS_MOST; k++) {
                if (isSet(k)) {
                    // laySwap() may have left an ITEM without the number that the KNOB turns
                    if (!into.hasNumber(items[k], numbers[k])) {
                        return false;
                    }
                    into.putCell(items[k], FIRST_NUMBER + numbers[k], numberAt(k, point));
                }
            }
            for (int k = 0; k < KNOBS_MOST; k++) {
                if (isSet(k) && !into.isItemAsTold(items[k])) {
                    return false;
                }
            }
            return true;
        }
    }

    /** WORLDS, and the book of WARNINGS. */
    private static final class Worlds {
        final int[] weights = new int[WORLDS_MOST];
        final int[] warnings = new int[4];
        private final int[] rains = new int[WORLDS_MOST * AHEAD_MOST];

        int putRain(int world, int ahead, int v) {
            int was = rainAhead(world, ahead);
            if (!isNoWorld(world) && !isOutside(ahead, 0, AHEAD_MOST - 1)) {
                rains[world * AHEAD_MOST + ahead] = v;
            }
            return was;
        }

        int rainAhead(int world, int ahead) {
            return isNoWorld(world) || isOutside(ahead, 0, AHEAD_MOST - 1) ? 0 : rains[world * AHEAD_MOST + ahead];
        }

        int weightOfAll() {
            int sum = 0;
            for (int world = 0; world < WORLDS_MOST; world++) {
                sum += weights[world];
            }
            return sum;
        }

        /** RIGHT, FALSE, MISSED, QUIET, in the order of booked(). */
        void enter(boolean isGiven, boolean isSo) {
            if (isGiven) {
                warnings[isSo ? 0 : 1]++;
            } else {
                warnings[isSo ? 2 : 3]++;
            }
        }
    }

    /** Goes through the OPENINGS of a GATE block by block, the lower ones first. */
    private static final class Search {
        private static final long ABOVE_LIMIT = -1;

        private final Course[] blockEnds = new Course[BLOCKS];
        private final int[] tried = new int[BLOCKS];
        final int[] found = new int[BLOCKS];
        boolean isFound = false;
        long leastPeak = 0;
        private int gate = 0;
        private int blockHours = 0;
        private int gauge = 0;
        private int store = 0;
        private long limit = 0;

        Search() {
            for (int block = 0; block < BLOCKS; block++) {
                blockEnds[block] = new Course();
            }
        }

        void prepare(int theGate, int theHours, int theGauge, int theStore, long theLimit) {
            gate = theGate;
            blockHours = theHours;
            gauge = theGauge;
            store = theStore;
            limit = theLimit;
            isFound = false;
        }

        /** One level a block. What is no better than the found one is left, as the found one is lower. */
        private void tryBlock(Model by, Sky sky, Gauges gauges, Course from, int block, long peakBefore) {
            if (isOutside(block, 0, BLOCKS - 1)) {
                return;
            }
            Course course = blockEnds[block];
            for (int opening = 0; opening <= OPENING_MOST; opening += OPENING_STEP) {
                tried[block] = opening;
                course.copyFrom(from);
                long peak = peakOfBlock(by, sky, gauges, course, opening, peakBefore);
                if (peak == ABOVE_LIMIT || isFound && peak >= leastPeak) {
                    continue;
                }
                if (block == BLOCKS - 1) {
                    takeTried(peak);
                } else {
                    tryBlock(by, sky, gauges, course, block + 1, peak);
                }
            }
        }

        private long peakOfBlock(Model by, Sky sky, Gauges gauges, Course course, int opening, long peakBefore) {
            if (isNoGate(gate) || isNoStore(store)) {
                return ABOVE_LIMIT;
            }
            course.openings[gate] = opening;
            long peak = peakBefore;
            for (int hour = 0; hour < blockHours; hour++) {
                course.goHour(by, sky.rainIn(course.hours), sky.tempIn(course.hours));
                if (course.held[store] > limit) {
                    return ABOVE_LIMIT;
                }
                peak = Math.max(peak, gauges.reading(course, gauge));
            }
            return peak;
        }

        private void takeTried(long peak) {
            isFound = true;
            leastPeak = peak;
            System.arraycopy(tried, 0, found, 0, BLOCKS);
        }
    }
}
