import java.lang.reflect.Method;
import java.util.ArrayList;
import java.util.Arrays;
import java.util.List;
import java.util.Random;

/** All promises: the same many runs of calls on the class and on SlowBench answer the same. */
public final class ModelTest {
    private static final int RUNS = 400;
    private static final int CALLS = 512;
    private static final Due DUE = new Due("ModelTest");

    /** A call of the face: how often it comes, its name, and what kind of number each argument is. */
    private record Call(int often, String name, String kinds) {
    }

    private static final Call[] CALLS_OF_THE_FACE = {
        new Call(1, "knob", "n"), new Call(6, "place", "kvp"), new Call(6, "steep", "ks"),
        new Call(3, "rule", "bkvkv"), new Call(3, "noRule", ""), new Call(10, "effect", "kvjve"),
        new Call(2, "base", "e"), new Call(4, "noise", "z"), new Call(3, "seed", "r"),
        new Call(4, "with", "xkv"), new Call(4, "value", "xk"), new Call(4, "allowed", "x"),
        new Call(4, "book", ""), new Call(5, "worth", "x"), new Call(5, "best", "1"),
        new Call(25, "trial", "x"), new Call(6, "read", "t1"), new Call(1, "forget", ""),
        new Call(10, "bound", "x1"), new Call(10, "left", "2"), new Call(4, "search", "u"),
        new Call(8, "pairs", "kvv1"), new Call(8, "excess", "xkvvjvv"), new Call(8, "joint", "xkvvjvv"),
        new Call(5, "odds", "xx1"), new Call(5, "safe", "xxaa"), new Call(6, "back", "xx"),
        new Call(5, "count", "6"),
    };

    private final Random random;
    private final KnobBench fast = new KnobBench();
    private final SlowBench slow = new SlowBench();
    /** Runs differ in how great numbers are, so that likes and near ones come up often. */
    private final int scale;
    private final int settingsUsed;

    private ModelTest(int run) {
        random = new Random(run);
        scale = new int[] {1, 3, 30, 1000}[run % 4];
        settingsUsed = run % 3 == 0 ? 3 : 144;
    }

    public static void main(String[] args) throws ReflectiveOperationException {
        List<Call> bag = new ArrayList<>();
        for (Call c : CALLS_OF_THE_FACE) {
            for (int i = 0; i < c.often; i++) {
                bag.add(c);
            }
        }
        for (int run = 0; run < RUNS; run++) {
            new ModelTest(run).run(run, bag);
        }
        DUE.end();
    }

    private void run(int run, List<Call> bag) throws ReflectiveOperationException {
        int knobs = run % 7;
        for (int i = 0; i < knobs; i++) {
            ask(run, new Call(1, "knob", "n"), new Object[] {2 + random.nextInt(knobs > 3 ? 2 : 3)});
        }
        for (int i = knobs; i < CALLS; i++) {
            Call c = bag.get(random.nextInt(bag.size()));
            if (c.name.equals("knob") && random.nextInt(4) != 0) {
                c = new Call(1, "left", "2");
            }
            Object[] arguments = new Object[c.kinds.length()];
            for (int k = 0; k < arguments.length; k++) {
                arguments[k] = argument(c.kinds.charAt(k));
            }
            ask(run, c, arguments);
        }
    }

    private void ask(int run, Call c, Object[] arguments) throws ReflectiveOperationException {
        Class<?>[] types = new Class<?>[arguments.length];
        for (int k = 0; k < types.length; k++) {
            types[k] = c.kinds.charAt(k) == 'b' ? boolean.class : int.class;
        }
        Method asked = KnobBench.class.getMethod(c.name, types);
        Method due = SlowBench.class.getMethod(c.name, types);
        String call = "run " + run + ": " + c.name + Arrays.toString(arguments);
        DUE.is(call, (Integer) asked.invoke(fast, arguments), (Integer) due.invoke(slow, arguments));
    }

    private Object argument(char kind) {
        if (kind == 'b') {
            return random.nextBoolean();
        }
        if (random.nextInt(150) == 0) {
            return new int[] {Integer.MIN_VALUE, Integer.MAX_VALUE, -1, -2, 1001, -1001}[random.nextInt(6)];
        }
        switch (kind) {
            case 'n': return from(1, 5);
            case 'k': return edged(0, slow.count(0) - 1);
            case 'j': return from(-1, slow.count(0) - 1);
            case 'v': return edged(0, random.nextInt(3) == 0 ? 3 : 1);
            case 'p': return edged(-Math.min(scale, 100), Math.min(scale, 100));
            case 's': return edged(0, Math.min(scale, 100));
            case 'e': return edged(-scale, scale);
            case 'z': return edged(0, Math.min(scale - 1, 50));
            case 'r': return random.nextInt(1 << 30);
            case 'x': return edged(0, Math.min(settingsUsed, slow.count(1)) - 1);
            case 't': return edged(0, slow.count(3) - 1);
            case 'u': return random.nextInt(4) == 0 ? from(0, 31) : from(1, 3);
            case 'a': return from(0, random.nextBoolean() ? 1001 : 9);
            default: return from(random.nextInt(20) == 0 ? -1 : 0, random.nextInt(20) == 0 ? kind - '0' + 1 : kind - '0');
        }
    }

    private int from(int least, int most) {
        return most < least ? least : least + random.nextInt(most - least + 1);
    }

    /** Mostly within, at times just outside. */
    private int edged(int least, int most) {
        return random.nextInt(20) == 0 ? from(least - 1, most + 1) : from(least, most);
    }
}
