/** Promises 7, 8, 15 and 16: effects, the base, worth, the best. */
public final class WorthTest {
    private static final int LOW = Integer.MIN_VALUE;
    private static final int HIGH = Integer.MAX_VALUE;
    private static final Due DUE = new Due("WorthTest");

    public static void main(String[] args) {
        effect();
        badEffects();
        base();
        worth();
        best();
        bestOfNone();
        DUE.end();
    }

    private static KnobBench twoThreeTwo() {
        KnobBench x = new KnobBench();
        x.knob(2);
        x.knob(3);
        x.knob(2);
        return x;
    }

    private static void effect() {
        KnobBench x = twoThreeTwo();
        DUE.is("single, w not looked at", x.effect(1, 2, -1, 77, 1000), 0);
        DUE.is("single, w not looked at", x.effect(1, 2, -1, LOW, -1000), 1000);
        DUE.is("joint", x.effect(1, 2, 2, 1, 8), 0);
        DUE.is("joint again", x.effect(1, 2, 2, 1, 9), 8);
        DUE.is("another joint", x.effect(1, 2, 2, 0, 4), 0);
        DUE.is("another joint of other knobs", x.effect(0, 1, 2, 1, 5), 0);
        DUE.is("each its own: single", x.effect(1, 2, -1, 0, 3), -1000);
        DUE.is("each its own: joint", x.effect(1, 2, 2, 1, 9), 9);
        DUE.is("each its own: joint", x.effect(1, 2, 2, 0, 4), 4);
        DUE.is("each its own: joint", x.effect(0, 1, 2, 1, 5), 5);
        DUE.is("not told: single", x.effect(0, 1, -1, 0, 0), 0);
        DUE.is("not told: joint", x.effect(0, 1, 1, 2, 0), 0);
        DUE.is("1, 2, 1", x.worth(11), 17);
        DUE.is("0, 2, 1", x.worth(10), 12);
        DUE.is("1, 2, 0", x.worth(5), 7);
        DUE.is("1, 1, 1", x.worth(9), 5);
        DUE.is("0, 0, 0", x.worth(0), 0);
    }

    private static void badEffects() {
        KnobBench x = twoThreeTwo();
        x.effect(0, 0, -1, 0, 6);
        String before = Look.at(x);
        int[][] bad = {{-1, 0, -1, 0, 1}, {3, 0, -1, 0, 1}, {0, -1, -1, 0, 1}, {0, 2, -1, 0, 1},
            {0, 0, -1, 0, 1001}, {0, 0, -1, 0, -1001}, {0, 0, -2, 0, 1}, {0, 0, 3, 0, 1}, {0, 0, 1, -1, 1},
            {0, 0, 1, 3, 1}, {0, 0, 0, 1, 1}, {1, 0, 0, 0, 1}, {2, 0, 1, 0, 1}, {0, 0, 1, 0, 1001},
            {0, 0, 1, 0, -1001}, {-1, 0, 0, 0, 1}, {LOW, 0, -1, 0, 1}, {HIGH, 0, -1, 0, 1}, {0, LOW, -1, 0, 1},
            {0, HIGH, -1, 0, 1}, {0, 0, LOW, 0, 1}, {0, 0, HIGH, 0, 1}, {0, 0, 1, LOW, 1}, {0, 0, 1, HIGH, 1},
            {0, 0, -1, 0, LOW}, {0, 0, -1, 0, HIGH}};
        for (int[] b : bad) {
            String call = "effect(" + b[0] + ", " + b[1] + ", " + b[2] + ", " + b[3] + ", " + b[4] + ")";
            DUE.is(call, x.effect(b[0], b[1], b[2], b[3], b[4]), -10000);
        }
        DUE.same("after BAD effects", Look.at(x), before);
    }

    private static void base() {
        KnobBench x = twoThreeTwo();
        DUE.is("base(1000)", x.base(1000), 0);
        DUE.is("it is worth that", x.worth(7), 1000);
        for (int bad : new int[] {LOW, -1001, 1001, HIGH}) {
            DUE.is("base(" + bad + ")", x.base(bad), -10000);
        }
        DUE.is("base(-1000)", x.base(-1000), 1000);
        DUE.is("it is worth that", x.worth(7), -1000);
        DUE.is("base(0)", x.base(0), -1000);
    }

    private static void worth() {
        KnobBench x = new KnobBench();
        for (int k = 0; k < 6; k++) {
            x.knob(2);
        }
        x.base(1000);
        for (int a = 0; a < 6; a++) {
            x.effect(a, 1, -1, 0, 1000);
            for (int b = a + 1; b < 6; b++) {
                x.effect(a, 1, b, 1, 1000);
                x.effect(a, 0, b, 0, -1000);
            }
        }
        DUE.is("all that can be", x.worth(63), 22000);
        DUE.is("the other end", x.worth(0), -14000);
        // Knob 0 and 5 at 1: two singles, one joint, six joints of the four others.
        DUE.is("between", x.worth(33), 1000 + 2000 + 1000 - 6000);
        for (int bad : new int[] {LOW, -1, 64, HIGH}) {
            DUE.is("worth(" + bad + ")", x.worth(bad), -100000);
        }
        x.rule(false, 0, 1, 1, 1);
        DUE.is("a banned one is worth what it was", x.worth(63), 22000);
    }

    private static void best() {
        KnobBench x = twoThreeTwo();
        DUE.is("all alike: worth", x.best(0), 0);
        DUE.is("all alike: the least number", x.best(1), 0);
        x.base(-50);
        DUE.is("all below 0: worth", x.best(0), -50);
        DUE.is("all below 0: number", x.best(1), 0);
        x.effect(1, 1, -1, 0, 5);
        DUE.is("of four the least number", x.best(1), 2);
        DUE.is("of four the worth", x.best(0), -45);
        x.rule(false, 1, 1, 0, 0);
        DUE.is("of the two that are allowed", x.best(1), 3);
        x.effect(2, 1, -1, 0, 1);
        DUE.is("one more", x.best(1), 9);
        DUE.is("one more", x.best(0), -44);
        for (int bad : new int[] {LOW, -1, 2, HIGH}) {
            DUE.is("best(" + bad + ")", x.best(bad), -100001);
        }
    }

    private static void bestOfNone() {
        KnobBench x = new KnobBench();
        x.knob(2);
        x.knob(2);
        x.rule(true, 0, 0, 1, 0);
        x.rule(true, 0, 0, 1, 1);
        x.rule(false, 0, 1, 1, 0);
        DUE.is("one is allowed", x.best(1), 3);
        x.rule(false, 0, 1, 1, 1);
        DUE.is("none: worth", x.best(0), -100000);
        DUE.is("none: number", x.best(1), KnobBench.NONE);
        DUE.is("none, and BAD", x.best(2), -100001);
    }
}
