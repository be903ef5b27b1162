import java.util.ArrayList;
import java.util.HashMap;
import java.util.List;
import java.util.Map;

/** The document's promises once more, in the plainest form and by other ways than the class's. */
public final class SlowBench {
    private static final int BAD = -1;
    private static final int NO = -2;
    private static final int FULL = -3;
    private static final int NONE = -4;

    private record Rule(boolean need, int a, int v, int b, int w) {
    }

    private record Trial(int setting, int reading) {
    }

    private final List<int[]> places = new ArrayList<>();
    private final List<Integer> steeps = new ArrayList<>();
    private final List<Rule> rules = new ArrayList<>();
    private final Map<String, Integer> effects = new HashMap<>();
    private final List<Trial> trials = new ArrayList<>();
    private int base = 0;
    private int noise = 0;
    private long seed = 1;

    private int settings() {
        int product = 1;
        for (int[] p : places) {
            product *= p.length;
        }
        return product;
    }

    private int[] values(int setting) {
        int[] v = new int[places.size()];
        int rest = setting;
        for (int k = 0; k < v.length; k++) {
            v[k] = rest % places.get(k).length;
            rest /= places.get(k).length;
        }
        return v;
    }

    private int number(int[] v) {
        int n = 0;
        for (int k = v.length - 1; k >= 0; k--) {
            n = n * places.get(k).length + v[k];
        }
        return n;
    }

    private boolean isKnob(int k) {
        return k >= 0 && k < places.size();
    }

    private boolean isValue(int k, int v) {
        return isKnob(k) && v >= 0 && v < places.get(k).length;
    }

    private boolean isSetting(int s) {
        return s >= 0 && s < settings();
    }

    private boolean isAllowed(int s) {
        int[] v = values(s);
        for (Rule r : rules) {
            boolean first = v[r.a] == r.v;
            boolean second = v[r.b] == r.w;
            if (r.need ? first && !second : first && second) {
                return false;
            }
        }
        return true;
    }

    private List<Integer> allAllowed() {
        List<Integer> found = new ArrayList<>();
        for (int s = 0; s < settings(); s++) {
            if (isAllowed(s)) {
                found.add(s);
            }
        }
        return found;
    }

    private int worthOf(int s) {
        int[] v = values(s);
        int sum = base;
        for (int a = 0; a < v.length; a++) {
            sum += effects.getOrDefault(a + "=" + v[a], 0);
            for (int b = a + 1; b < v.length; b++) {
                sum += effects.getOrDefault(a + "=" + v[a] + "," + b + "=" + v[b], 0);
            }
        }
        return sum;
    }

    private int off(int x, int y) {
        int[] v = values(x);
        int[] w = values(y);
        int sum = 0;
        for (int k = 0; k < v.length; k++) {
            sum += Math.abs(places.get(k)[v[k]] - places.get(k)[w[k]]) * steeps.get(k);
        }
        return sum;
    }

    private int floor(int x) {
        return trials.stream().mapToInt(t -> t.reading - noise - off(x, t.setting)).max().orElse(-1000000);
    }

    private int roof(int x) {
        return trials.stream().mapToInt(t -> t.reading + noise + off(x, t.setting)).min().orElse(1000000);
    }

    private List<Integer> allLeft() {
        List<Integer> allowed = allAllowed();
        int bar = allowed.stream().mapToInt(this::floor).max().orElse(0);
        List<Integer> found = new ArrayList<>();
        for (int x : allowed) {
            if (roof(x) >= bar) {
                found.add(x);
            }
        }
        return found;
    }

    private int next() {
        int found = NONE;
        for (int x : allLeft()) {
            if (found == NONE || roof(x) > roof(found)) {
                found = x;
            }
        }
        return found;
    }

    private List<Integer> readings(int setting) {
        List<Integer> found = new ArrayList<>();
        for (Trial t : trials) {
            if (t.setting == setting) {
                found.add(t.reading);
            }
        }
        return found;
    }

    private void draw(int setting) {
        seed = (seed * 69069 + 5) % 1073741824;
        trials.add(new Trial(setting, worthOf(setting) + (int) (seed / 64 % (2 * noise + 1)) - noise));
    }

    private static boolean outside(int n, int least, int most) {
        return n < least || n > most;
    }

    public int knob(int values) {
        if (outside(values, 2, 4)) {
            return BAD;
        }
        if (places.size() == 6 || settings() * values > 144) {
            return FULL;
        }
        int[] p = new int[values];
        for (int v = 0; v < values; v++) {
            p[v] = v;
        }
        places.add(p);
        steeps.add(0);
        trials.clear();
        return places.size() - 1;
    }

    public int place(int knob, int value, int p) {
        if (!isValue(knob, value) || outside(p, -100, 100)) {
            return -1000;
        }
        int was = places.get(knob)[value];
        places.get(knob)[value] = p;
        return was;
    }

    public int steep(int knob, int s) {
        return !isKnob(knob) || outside(s, 0, 100) ? BAD : steeps.set(knob, s);
    }

    public int rule(boolean need, int a, int v, int b, int w) {
        if (!isValue(a, v) || !isValue(b, w) || a == b) {
            return BAD;
        }
        if (rules.size() == 12) {
            return FULL;
        }
        rules.add(new Rule(need, a, v, b, w));
        return rules.size();
    }

    public int noRule() {
        if (rules.isEmpty()) {
            return NO;
        }
        rules.remove(rules.size() - 1);
        return rules.size();
    }

    public int effect(int a, int v, int b, int w, int e) {
        if (!isValue(a, v) || outside(e, -1000, 1000) || b != -1 && (!isValue(b, w) || a >= b)) {
            return -10000;
        }
        Integer was = effects.put(b == -1 ? a + "=" + v : a + "=" + v + "," + b + "=" + w, e);
        return was == null ? 0 : was;
    }

    public int base(int e) {
        if (outside(e, -1000, 1000)) {
            return -10000;
        }
        int was = base;
        base = e;
        return was;
    }

    public int noise(int z) {
        if (outside(z, 0, 50)) {
            return BAD;
        }
        int was = noise;
        noise = z;
        return was;
    }

    public int seed(int v) {
        if (outside(v, 0, 1073741823)) {
            return BAD;
        }
        seed = v;
        return 0;
    }

    public int with(int setting, int knob, int value) {
        if (!isSetting(setting) || !isValue(knob, value)) {
            return BAD;
        }
        int[] v = values(setting);
        v[knob] = value;
        return number(v);
    }

    public int value(int setting, int knob) {
        return !isSetting(setting) || !isKnob(knob) ? BAD : values(setting)[knob];
    }

    public int allowed(int setting) {
        return !isSetting(setting) ? BAD : isAllowed(setting) ? 1 : 0;
    }

    public int book() {
        return allAllowed().size();
    }

    public int worth(int setting) {
        return !isSetting(setting) ? -100000 : worthOf(setting);
    }

    public int best(int best) {
        if (outside(best, 0, 1)) {
            return -100001;
        }
        int most = allAllowed().stream().mapToInt(this::worthOf).max().orElse(-100000);
        if (best == 0) {
            return most;
        }
        return allAllowed().stream().filter(s -> worthOf(s) == most).findFirst().orElse(NONE);
    }

    public int trial(int setting) {
        if (!isSetting(setting)) {
            return BAD;
        }
        if (!isAllowed(setting)) {
            return NO;
        }
        if (trials.size() == 60) {
            return FULL;
        }
        draw(setting);
        return trials.size();
    }

    public int read(int i, int what) {
        if (outside(i, 0, trials.size() - 1) || outside(what, 0, 1)) {
            return -100000;
        }
        return what == 0 ? trials.get(i).reading : trials.get(i).setting;
    }

    public int forget() {
        int were = trials.size();
        trials.clear();
        return were;
    }

    public int bound(int setting, int what) {
        if (!isSetting(setting) || outside(what, 0, 1)) {
            return -10000000;
        }
        return what == 0 ? floor(setting) : roof(setting);
    }

    public int left(int what) {
        switch (what) {
            case 0:
                return allLeft().size();
            case 1:
                return next();
            case 2:
                for (int x : allAllowed()) {
                    for (int y : allAllowed()) {
                        if (worthOf(x) - worthOf(y) > off(x, y)) {
                            return 0;
                        }
                    }
                }
                return 1;
            default:
                return BAD;
        }
    }

    public int search(int turns) {
        if (outside(turns, 1, 30)) {
            return BAD;
        }
        if (allAllowed().isEmpty()) {
            return NO;
        }
        int made = 0;
        while (made < turns && trials.size() < 60 && allLeft().size() > 1) {
            int next = next();
            if (noise == 0 && !readings(next).isEmpty()) {
                break;
            }
            draw(next);
            made++;
        }
        return made;
    }

    public int pairs(int a, int v, int w, int what) {
        if (!isValue(a, v) || !isValue(a, w) || v == w || outside(what, 0, 1)) {
            return -10000000;
        }
        int many = 0;
        int sum = 0;
        for (int x = 0; x < settings(); x++) {
            for (int y = 0; y < settings(); y++) {
                if (values(x)[a] == v && y == with(x, a, w) && !readings(x).isEmpty() && !readings(y).isEmpty()) {
                    many++;
                    sum += readings(y).get(0) - readings(x).get(0);
                }
            }
        }
        return what == 0 ? many : sum;
    }

    public int excess(int setting, int a, int v, int v2, int b, int w, int w2) {
        boolean told = isSetting(setting) && isValue(a, v) && isValue(a, v2) && isValue(b, w) && isValue(b, w2);
        if (!told || a >= b || v == v2 || w == w2) {
            return -10000001;
        }
        int[][] four = {{v2, w2, 1}, {v2, w, -1}, {v, w2, -1}, {v, w, 1}};
        int sum = 0;
        for (int[] f : four) {
            List<Integer> read = readings(with(with(setting, a, f[0]), b, f[1]));
            if (read.isEmpty()) {
                return -10000002;
            }
            sum += f[2] * read.get(0);
        }
        return sum;
    }

    public int joint(int setting, int a, int v, int v2, int b, int w, int w2) {
        int e = excess(setting, a, v, v2, b, w, w2);
        return e == -10000001 ? BAD : e == -10000002 ? NO : Math.abs(e) > 4 * noise ? 1 : 0;
    }

    /** All ways one by one: {those that count, all}. */
    private int[] ways(int x, int y) {
        List<Integer> xs = readings(x);
        List<Integer> ys = readings(y);
        List<Integer> all = new ArrayList<>(ys.subList(0, Math.min(8, ys.size())));
        int many = all.size();
        all.addAll(xs.subList(0, Math.min(8, xs.size())));
        int[] rank = new int[all.size()];
        for (int i = 0; i < rank.length; i++) {
            int mine = all.get(i);
            rank[i] = (int) (2 * all.stream().filter(r -> r < mine).count() + all.stream().filter(r -> r == mine).count() - 1);
        }
        int due = 0;
        for (int i = 0; i < many; i++) {
            due += rank[i];
        }
        int[] found = new int[2];
        for (int set = 0; set < 1 << rank.length; set++) {
            if (Integer.bitCount(set) != many) {
                continue;
            }
            int sum = 0;
            for (int i = 0; i < rank.length; i++) {
                sum += (set >> i & 1) * rank[i];
            }
            found[0] += sum >= due ? 1 : 0;
            found[1]++;
        }
        return found;
    }

    public int odds(int x, int y, int what) {
        if (!isSetting(x) || !isSetting(y) || x == y || outside(what, 0, 1)) {
            return BAD;
        }
        return readings(x).isEmpty() || readings(y).isEmpty() ? NO : ways(x, y)[what];
    }

    public int safe(int x, int y, int a, int b) {
        if (!isSetting(x) || !isSetting(y) || x == y || outside(a, 0, 1000) || outside(b, 1, 1000)) {
            return BAD;
        }
        if (readings(x).isEmpty() || readings(y).isEmpty()) {
            return NO;
        }
        int[] w = ways(x, y);
        return (long) w[0] * b <= (long) a * w[1] ? 1 : 0;
    }

    public int back(int x, int y) {
        if (!isSetting(x) || !isSetting(y)) {
            return BAD;
        }
        int now = x;
        for (int k = 0; k < places.size(); k++) {
            int then = with(now, k, value(y, k));
            now = isAllowed(then) && worthOf(then) == worthOf(now) ? then : now;
        }
        return now;
    }

    public int count(int what) {
        switch (what) {
            case 0: return places.size();
            case 1: return settings();
            case 2: return rules.size();
            case 3: return trials.size();
            case 4: return (int) trials.stream().map(Trial::setting).distinct().count();
            case 5: return noise;
            default: return BAD;
        }
    }
}
