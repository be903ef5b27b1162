import java.util.Arrays;

/**
 * A bench for settings of many knobs. What each call answers is said in the document, promise by
 * promise; a call never throws, it answers BAD, NO, FULL or NONE (or what the document has there).
 */
public final class KnobBench {
    public static final int BAD = -1, NO = -2, FULL = -3, NONE = -4;

    private static final int MOST_KNOBS = 6;
    private static final int LEAST_VALUES = 2;
    private static final int MOST_VALUES = 4;
    private static final int MOST_SETTINGS = 144;
    private static final int FARTHEST_PLACE = 100;
    private static final int STEEPEST = 100;
    private static final int MOST_RULES = 12;
    private static final int GREATEST_EFFECT = 1000;
    private static final int MOST_NOISE = 50;
    private static final int SEEDS = 1073741824;
    private static final int MOST_TRIALS = 60;
    private static final int MOST_TURNS = 30;
    private static final int MOST_RANKED = 8;
    private static final int MOST_ODDS = 1000;
    private static final int NO_FLOOR = -1000000;
    private static final int NO_ROOF = 1000000;

    // Where an answer of the face may be below 0, its refusals stand outside of what it can answer.
    private static final int BAD_PLACE = -1000;
    private static final int BAD_EFFECT = -10000;
    private static final int BAD_WORTH = -100000;
    private static final int NONE_WORTH = -100000;
    private static final int BAD_BEST = -100001;
    private static final int BAD_BOUND = -10000000;
    private static final int BAD_PAIRS = -10000000;
    private static final int BAD_EXCESS = -10000001;
    private static final int NO_EXCESS = -10000002;

    private final Knobs knobs;
    private final Rules rules;
    private final Effects effects;
    private final Trials trials;
    private final Open open;
    private final Bounds bounds;
    private final Ranks ranks;

    public KnobBench() {
        knobs = new Knobs();
        rules = new Rules();
        effects = new Effects();
        trials = new Trials();
        open = new Open();
        bounds = new Bounds();
        ranks = new Ranks();
    }

    public int knob(int values) {
        if (!isWithin(values, LEAST_VALUES, MOST_VALUES)) {
            return BAD;
        }
        if (!knobs.hasRoomFor(values)) {
            return FULL;
        }
        trials.clear();
        return knobs.add(values);
    }

    public int place(int knob, int value, int p) {
        if (!knobs.hasValue(knob, value) || !isWithin(p, -FARTHEST_PLACE, FARTHEST_PLACE)) {
            return BAD_PLACE;
        }
        return knobs.changePlace(knob, value, p);
    }

    public int steep(int knob, int s) {
        if (!knobs.hasKnob(knob) || !isWithin(s, 0, STEEPEST)) {
            return BAD;
        }
        return knobs.changeSteepness(knob, s);
    }

    public int rule(boolean need, int a, int v, int b, int w) {
        if (!knobs.hasValue(a, v) || !knobs.hasValue(b, w) || a == b) {
            return BAD;
        }
        if (rules.isFull()) {
            return FULL;
        }
        rules.add(need, a, v, b, w);
        return rules.howMany();
    }

    public int noRule() {
        if (rules.howMany() == 0) {
            return NO;
        }
        rules.dropLatest();
        return rules.howMany();
    }

    public int effect(int a, int v, int b, int w, int e) {
        if (!knobs.hasValue(a, v) || !isWithin(e, -GREATEST_EFFECT, GREATEST_EFFECT)) {
            return BAD_EFFECT;
        }
        if (b == -1) {
            return effects.changeSingle(a, v, e);
        }
        if (!knobs.hasValue(b, w) || a >= b) {
            return BAD_EFFECT;
        }
        return effects.changeJoint(a, v, b, w, e);
    }

    public int base(int e) {
        if (!isWithin(e, -GREATEST_EFFECT, GREATEST_EFFECT)) {
            return BAD_EFFECT;
        }
        return effects.changeBase(e);
    }

    public int noise(int z) {
        if (!isWithin(z, 0, MOST_NOISE)) {
            return BAD;
        }
        return trials.changeNoise(z);
    }

    public int seed(int v) {
        if (!isWithin(v, 0, SEEDS - 1)) {
            return BAD;
        }
        trials.changeSeed(v);
        return 0;
    }

    public int with(int setting, int knob, int value) {
        if (!knobs.hasSetting(setting) || !knobs.hasValue(knob, value)) {
            return BAD;
        }
        return knobs.moved(setting, knob, value);
    }

    public int value(int setting, int knob) {
        if (!knobs.hasSetting(setting) || !knobs.hasKnob(knob)) {
            return BAD;
        }
        return knobs.valueIn(setting, knob);
    }

    public int allowed(int setting) {
        if (!knobs.hasSetting(setting)) {
            return BAD;
        }
        return rules.allow(setting, knobs) ? 1 : 0;
    }

    public int book() {
        open.gather(knobs, rules);
        return open.howMany();
    }

    public int worth(int setting) {
        if (!knobs.hasSetting(setting)) {
            return BAD_WORTH;
        }
        return effects.sumFor(setting, knobs);
    }

    public int best(int best) {
        if (!isWithin(best, 0, 1)) {
            return BAD_BEST;
        }
        int setting = bestSetting();
        if (best == 1) {
            return setting;
        }
        return setting == NONE ? NONE_WORTH : effects.sumFor(setting, knobs);
    }

    public int trial(int setting) {
        if (!knobs.hasSetting(setting)) {
            return BAD;
        }
        if (!rules.allow(setting, knobs)) {
            return NO;
        }
        if (trials.isFull()) {
            return FULL;
        }
        trials.add(setting, effects.sumFor(setting, knobs));
        return trials.howMany();
    }

    public int read(int i, int what) {
        if (!trials.has(i) || !isWithin(what, 0, 1)) {
            return BAD_WORTH;
        }
        return what == 0 ? trials.readingAt(i) : trials.settingAt(i);
    }

    public int forget() {
        int gone = trials.howMany();
        trials.clear();
        return gone;
    }

    public int bound(int setting, int what) {
        if (!knobs.hasSetting(setting) || !isWithin(what, 0, 1)) {
            return BAD_BOUND;
        }
        bounds.measure(setting, trials, knobs);
        return what == 0 ? bounds.floorOf(setting) : bounds.roofOf(setting);
    }

    public int left(int what) {
        if (!isWithin(what, 0, 2)) {
            return BAD;
        }
        open.gather(knobs, rules);
        if (what == 2) {
            return isToldSmoothnessTrue() ? 1 : 0;
        }
        bounds.measureAll(trials, knobs);
        return what == 0 ? bounds.howManyLeft(open) : bounds.nextOf(open);
    }

    public int search(int turns) {
        if (!isWithin(turns, 1, MOST_TURNS)) {
            return BAD;
        }
        open.gather(knobs, rules);
        if (open.howMany() == 0) {
            return NO;
        }
        bounds.measureAll(trials, knobs);
        for (int made = 0; made < turns; made++) {
            int next = nextToSearch();
            if (next == NONE) {
                return made;
            }
            trials.add(next, effects.sumFor(next, knobs));
            bounds.tightenByLatest(trials, knobs);
        }
        return turns;
    }

    public int pairs(int a, int v, int w, int what) {
        if (!knobs.hasValue(a, v) || !knobs.hasValue(a, w) || v == w || !isWithin(what, 0, 1)) {
            return BAD_PAIRS;
        }
        int found = 0;
        int sum = 0;
        for (int i = 0; i < trials.howMany(); i++) {
            int first = trials.settingAt(i);
            if (knobs.valueIn(first, a) != v || trials.firstOf(first) != i) {
                continue;
            }
            int second = trials.firstOf(knobs.moved(first, a, w));
            if (second != NONE) {
                found++;
                sum += trials.readingAt(second) - trials.readingAt(i);
            }
        }
        return what == 0 ? found : sum;
    }

    public int excess(int setting, int a, int v, int v2, int b, int w, int w2) {
        if (!knobs.hasSetting(setting) || a >= b || v == v2 || w == w2) {
            return BAD_EXCESS;
        }
        if (!knobs.hasValue(a, v) || !knobs.hasValue(a, v2)) {
            return BAD_EXCESS;
        }
        if (!knobs.hasValue(b, w) || !knobs.hasValue(b, w2)) {
            return BAD_EXCESS;
        }
        int before = knobs.moved(setting, a, v);
        int after = knobs.moved(setting, a, v2);
        int both = trials.firstOf(knobs.moved(after, b, w2));
        int aAlone = trials.firstOf(knobs.moved(after, b, w));
        int bAlone = trials.firstOf(knobs.moved(before, b, w2));
        int neither = trials.firstOf(knobs.moved(before, b, w));
        if (both == NONE || aAlone == NONE || bAlone == NONE || neither == NONE) {
            return NO_EXCESS;
        }
        return trials.readingAt(both) - trials.readingAt(aAlone)
                - trials.readingAt(bAlone) + trials.readingAt(neither);
    }

    public int joint(int setting, int a, int v, int v2, int b, int w, int w2) {
        int found = excess(setting, a, v, v2, b, w, w2);
        if (found == BAD_EXCESS) {
            return BAD;
        }
        if (found == NO_EXCESS) {
            return NO;
        }
        // Each of the four readings may be off by the noise, so less than this shows nothing.
        int byNoise = 4 * trials.currentNoise();
        return found > byNoise || found < -byNoise ? 1 : 0;
    }

    public int odds(int x, int y, int what) {
        if (!areTwoSettings(x, y) || !isWithin(what, 0, 1)) {
            return BAD;
        }
        if (!wereBothTried(x, y)) {
            return NO;
        }
        ranks.compare(x, y, trials);
        return what == 0 ? ranks.countingWays() : ranks.allWays();
    }

    public int safe(int x, int y, int a, int b) {
        if (!areTwoSettings(x, y) || !isWithin(a, 0, MOST_ODDS) || !isWithin(b, 1, MOST_ODDS)) {
            return BAD;
        }
        if (!wereBothTried(x, y)) {
            return NO;
        }
        ranks.compare(x, y, trials);
        return ranks.countingWays() * b <= ranks.allWays() * a ? 1 : 0;
    }

    public int back(int x, int y) {
        if (!knobs.hasSetting(x) || !knobs.hasSetting(y)) {
            return BAD;
        }
        int due = effects.sumFor(x, knobs);
        int now = x;
        for (int k = 0; k < knobs.howMany(); k++) {
            int tried = knobs.moved(now, k, knobs.valueIn(y, k));
            if (rules.allow(tried, knobs) && effects.sumFor(tried, knobs) == due) {
                now = tried;
            }
        }
        return now;
    }

    public int count(int what) {
        switch (what) {
            case 0: return knobs.howMany();
            case 1: return knobs.howManySettings();
            case 2: return rules.howMany();
            case 3: return trials.howMany();
            case 4: return trials.howManySettings();
            case 5: return trials.currentNoise();
            default: return BAD;
        }
    }

    private static boolean isWithin(int n, int least, int most) {
        return n >= least && n <= most;
    }

    private boolean areTwoSettings(int x, int y) {
        return knobs.hasSetting(x) && knobs.hasSetting(y) && x != y;
    }

    private boolean wereBothTried(int x, int y) {
        return trials.firstOf(x) != NONE && trials.firstOf(y) != NONE;
    }

    private int bestSetting() {
        open.gather(knobs, rules);
        int found = NONE;
        int most = 0;
        for (int i = 0; i < open.howMany(); i++) {
            int sum = effects.sumFor(open.settingAt(i), knobs);
            if (found == NONE || sum > most) {
                found = open.settingAt(i);
                most = sum;
            }
        }
        return found;
    }

    private boolean isToldSmoothnessTrue() {
        open.weigh(knobs, effects);
        for (int i = 1; i < open.howMany(); i++) {
            for (int j = 0; j < i; j++) {
                int apart = Math.abs(open.worthAt(i) - open.worthAt(j));
                if (apart > knobs.off(open.settingAt(i), open.settingAt(j))) {
                    return false;
                }
            }
        }
        return true;
    }

    /** What a search is to try now, or NONE, where it ends. */
    private int nextToSearch() {
        if (trials.isFull() || bounds.howManyLeft(open) == 1) {
            return NONE;
        }
        int next = bounds.nextOf(open);
        // Without noise one more trial of the same setting would read the same for ever.
        if (next != NONE && trials.currentNoise() == 0 && trials.firstOf(next) != NONE) {
            return NONE;
        }
        return next;
    }

    /** The knobs and the settings that they make. */
    private static final class Knobs {
        private int many;
        private int settings;
        private final int[] sizes;
        private final int[] strides;
        private final int[] places;
        private final int[] steepness;

        Knobs() {
            many = 0;
            settings = 1;
            sizes = new int[MOST_KNOBS];
            strides = new int[MOST_KNOBS];
            places = new int[MOST_KNOBS * MOST_VALUES];
            steepness = new int[MOST_KNOBS];
            // Both divide: no knob, come or not, may ever have a 0 there.
            Arrays.fill(sizes, 1);
            Arrays.fill(strides, 1);
        }

        int howMany() {
            return many;
        }

        int howManySettings() {
            return settings;
        }

        boolean hasRoomFor(int values) {
            return many < MOST_KNOBS && settings * values <= MOST_SETTINGS;
        }

        int add(int values) {
            int knob = many;
            sizes[knob] = values;
            strides[knob] = settings;
            for (int v = 0; v < values; v++) {
                places[slot(knob, v)] = v;
            }
            settings *= values;
            many++;
            return knob;
        }

        boolean hasKnob(int knob) {
            return knob >= 0 && knob < many;
        }

        boolean hasValue(int knob, int value) {
            return hasKnob(knob) && value >= 0 && value < sizes[knob];
        }

        boolean hasSetting(int setting) {
            return setting >= 0 && setting < settings;
        }

        int changePlace(int knob, int value, int p) {
            int was = places[slot(knob, value)];
            places[slot(knob, value)] = p;
            return was;
        }

        int changeSteepness(int knob, int s) {
            int was = steepness[knob];
            steepness[knob] = s;
            return was;
        }

        int valueIn(int setting, int knob) {
            return setting / strides[knob] % sizes[knob];
        }

        int moved(int setting, int knob, int value) {
            return setting + (value - valueIn(setting, knob)) * strides[knob];
        }

        int off(int x, int y) {
            int sum = 0;
            for (int k = 0; k < many; k++) {
                int apart = places[slot(k, valueIn(x, k))] - places[slot(k, valueIn(y, k))];
                sum += Math.abs(apart) * steepness[k];
            }
            return sum;
        }

        /** Where what is told of one value of one knob stands in a row over all of them. */
        static int slot(int knob, int value) {
            return knob * MOST_VALUES + value;
        }
    }

    /** Bans and needs, as they were told. */
    private static final class Rules {
        private int many;
        private final boolean[] needs;
        private final int[] firstKnobs;
        private final int[] firstValues;
        private final int[] secondKnobs;
        private final int[] secondValues;

        Rules() {
            many = 0;
            needs = new boolean[MOST_RULES];
            firstKnobs = new int[MOST_RULES];
            firstValues = new int[MOST_RULES];
            secondKnobs = new int[MOST_RULES];
            secondValues = new int[MOST_RULES];
        }

        int howMany() {
            return many;
        }

        boolean isFull() {
            return many >= MOST_RULES;
        }

        void add(boolean need, int a, int v, int b, int w) {
            needs[many] = need;
            firstKnobs[many] = a;
            firstValues[many] = v;
            secondKnobs[many] = b;
            secondValues[many] = w;
            many++;
        }

        void dropLatest() {
            many--;
        }

        boolean allow(int setting, Knobs knobs) {
            for (int i = 0; i < many; i++) {
                if (isAgainst(i, setting, knobs)) {
                    return false;
                }
            }
            return true;
        }

        private boolean isAgainst(int i, int setting, Knobs knobs) {
            if (knobs.valueIn(setting, firstKnobs[i]) != firstValues[i]) {
                return false;
            }
            boolean together = knobs.valueIn(setting, secondKnobs[i]) == secondValues[i];
            return together != needs[i];
        }
    }

    /** The base, the single and the joint effects: what a setting is worth. */
    private static final class Effects {
        private static final int SLOTS = MOST_KNOBS * MOST_VALUES;

        private int base;
        private final int[] singles;
        private final int[] joints;
        private final int[] slots;

        Effects() {
            base = 0;
            singles = new int[SLOTS];
            joints = new int[SLOTS * SLOTS];
            slots = new int[MOST_KNOBS];
        }

        int changeBase(int e) {
            int was = base;
            base = e;
            return was;
        }

        int changeSingle(int a, int v, int e) {
            int at = Knobs.slot(a, v);
            int was = singles[at];
            singles[at] = e;
            return was;
        }

        int changeJoint(int a, int v, int b, int w, int e) {
            int at = Knobs.slot(a, v) * SLOTS + Knobs.slot(b, w);
            int was = joints[at];
            joints[at] = e;
            return was;
        }

        int sumFor(int setting, Knobs knobs) {
            int sum = base;
            for (int b = 0; b < knobs.howMany(); b++) {
                slots[b] = Knobs.slot(b, knobs.valueIn(setting, b));
                sum += singles[slots[b]];
                for (int a = 0; a < b; a++) {
                    sum += joints[slots[a] * SLOTS + slots[b]];
                }
            }
            return sum;
        }
    }

    /** What was tried and what it read, with the noise and the seed that it comes from. */
    private static final class Trials {
        private int many;
        private int noise;
        private int seed;
        private final int[] settings;
        private final int[] readings;

        Trials() {
            many = 0;
            noise = 0;
            seed = 1;
            settings = new int[MOST_TRIALS];
            readings = new int[MOST_TRIALS];
        }

        int howMany() {
            return many;
        }

        boolean isFull() {
            return many >= MOST_TRIALS;
        }

        boolean has(int i) {
            return i >= 0 && i < many;
        }

        int settingAt(int i) {
            return settings[i];
        }

        int readingAt(int i) {
            return readings[i];
        }

        int currentNoise() {
            return noise;
        }

        int changeNoise(int z) {
            int was = noise;
            noise = z;
            return was;
        }

        void changeSeed(int v) {
            seed = v;
        }

        void clear() {
            many = 0;
        }

        void add(int setting, int worth) {
            settings[many] = setting;
            readings[many] = worth + drawNoise();
            many++;
        }

        private int drawNoise() {
            // The product goes far beyond an int.
            seed = (int) ((seed * 69069L + 5L) % SEEDS);
            return seed / 64 % (2 * noise + 1) - noise;
        }

        /** The first trial of a setting, or NONE. */
        int firstOf(int setting) {
            for (int i = 0; i < many; i++) {
                if (settings[i] == setting) {
                    return i;
                }
            }
            return NONE;
        }

        int howManySettings() {
            int found = 0;
            for (int i = 0; i < many; i++) {
                if (firstOf(settings[i]) == i) {
                    found++;
                }
            }
            return found;
        }
    }

    /** The allowed settings, gathered anew by each call that goes through all of them. */
    private static final class Open {
        private int many;
        private final int[] settings;
        private final int[] worths;

        Open() {
            many = 0;
            settings = new int[MOST_SETTINGS];
            worths = new int[MOST_SETTINGS];
        }

        int howMany() {
            return many;
        }

        int settingAt(int i) {
            return settings[i];
        }

        int worthAt(int i) {
            return worths[i];
        }

        void gather(Knobs knobs, Rules rules) {
            many = 0;
            for (int x = 0; x < knobs.howManySettings(); x++) {
                if (rules.allow(x, knobs)) {
                    settings[many] = x;
                    many++;
                }
            }
        }

        void weigh(Knobs knobs, Effects effects) {
            for (int i = 0; i < many; i++) {
                worths[i] = effects.sumFor(settings[i], knobs);
            }
        }
    }

    /** Floors and roofs of settings; right only for what was measured in the same call. */
    private static final class Bounds {
        private final int[] floors;
        private final int[] roofs;

        Bounds() {
            floors = new int[MOST_SETTINGS];
            roofs = new int[MOST_SETTINGS];
        }

        int floorOf(int setting) {
            return floors[setting];
        }

        int roofOf(int setting) {
            return roofs[setting];
        }

        void measureAll(Trials trials, Knobs knobs) {
            for (int x = 0; x < knobs.howManySettings(); x++) {
                measure(x, trials, knobs);
            }
        }

        void measure(int x, Trials trials, Knobs knobs) {
            floors[x] = NO_FLOOR;
            roofs[x] = NO_ROOF;
            for (int i = 0; i < trials.howMany(); i++) {
                tighten(x, i, trials, knobs);
            }
        }

        /** Spares a search to measure all anew after each of its trials. */
        void tightenByLatest(Trials trials, Knobs knobs) {
            for (int x = 0; x < knobs.howManySettings(); x++) {
                tighten(x, trials.howMany() - 1, trials, knobs);
            }
        }

        private void tighten(int x, int i, Trials trials, Knobs knobs) {
            int slack = trials.currentNoise() + knobs.off(x, trials.settingAt(i));
            floors[x] = Math.max(floors[x], trials.readingAt(i) - slack);
            roofs[x] = Math.min(roofs[x], trials.readingAt(i) + slack);
        }

        int howManyLeft(Open open) {
            int bar = greatestFloor(open);
            int found = 0;
            for (int i = 0; i < open.howMany(); i++) {
                if (roofs[open.settingAt(i)] >= bar) {
                    found++;
                }
            }
            return found;
        }

        /** The open setting that is to be tried next, or NONE. */
        int nextOf(Open open) {
            int bar = greatestFloor(open);
            int next = NONE;
            for (int i = 0; i < open.howMany(); i++) {
                int x = open.settingAt(i);
                if (roofs[x] >= bar && (next == NONE || roofs[x] > roofs[next])) {
                    next = x;
                }
            }
            return next;
        }

        private int greatestFloor(Open open) {
            int bar = NO_FLOOR;
            for (int i = 0; i < open.howMany(); i++) {
                bar = Math.max(bar, floors[open.settingAt(i)]);
            }
            return bar;
        }
    }

    /** Whether one setting reads better than another, by the ranks of their readings. */
    private static final class Ranks {
        private static final int MOST_TOGETHER = 2 * MOST_RANKED;
        // No rank is above that of a reading with all others below it.
        private static final int SUMS = MOST_RANKED * 2 * (MOST_TOGETHER - 1) + 1;

        private int many;
        private int counting;
        private int all;
        private final int[] readings;
        private final int[] ways;

        Ranks() {
            many = 0;
            counting = 0;
            all = 0;
            readings = new int[MOST_TOGETHER];
            ways = new int[(MOST_RANKED + 1) * SUMS];
        }

        int countingWays() {
            return counting;
        }

        int allWays() {
            return all;
        }

        void compare(int x, int y, Trials trials) {
            many = 0;
            gather(x, trials);
            int xMany = many;
            gather(y, trials);
            int due = 0;
            for (int i = xMany; i < many; i++) {
                due += rankAt(i);
            }
            int yMany = many - xMany;
            spreadWays(yMany);
            counting = waysFrom(due, yMany);
            all = waysFrom(0, yMany);
        }

        private void gather(int setting, Trials trials) {
            int end = many + MOST_RANKED;
            for (int i = 0; i < trials.howMany() && many < end; i++) {
                if (trials.settingAt(i) == setting) {
                    readings[many] = trials.readingAt(i);
                    many++;
                }
            }
        }

        private int rankAt(int i) {
            int rank = 0;
            for (int j = 0; j < many; j++) {
                if (readings[j] < readings[i]) {
                    rank += 2;
                } else if (readings[j] == readings[i] && j != i) {
                    rank++;
                }
            }
            return rank;
        }

        /** ways[n * SUMS + s] becomes in how many ways n of all readings have ranks of the sum s. */
        private void spreadWays(int most) {
            Arrays.fill(ways, 0);
            ways[0] = 1;
            for (int i = 0; i < many; i++) {
                int rank = rankAt(i);
                // From above, so that no reading is taken twice.
                for (int n = most - 1; n >= 0; n--) {
                    for (int s = 0; s + rank < SUMS; s++) {
                        ways[(n + 1) * SUMS + s + rank] += ways[n * SUMS + s];
                    }
                }
            }
        }

        private int waysFrom(int least, int n) {
            int sum = 0;
            for (int s = least; s < SUMS; s++) {
                sum += ways[n * SUMS + s];
            }
            return sum;
        }
    }
}
