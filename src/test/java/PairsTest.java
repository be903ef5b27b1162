/** Promises 23, 24 and 25: effects of one knob and of two together on what was tried. */
public final class PairsTest {
    private static final int LOW = Integer.MIN_VALUE;
    private static final int HIGH = Integer.MAX_VALUE;
    private static final Due DUE = new Due("PairsTest");

    public static void main(String[] args) {
        pairs();
        firstTrialsCount();
        badPairs();
        excess();
        excessInASetting();
        badExcess();
        joint();
        DUE.end();
    }

    /** Worth 0, 4, 10, 1, 5, 17; all but 3 were tried. */
    private static KnobBench fiveTried() {
        KnobBench x = new KnobBench();
        x.knob(3);
        x.knob(2);
        x.effect(0, 1, -1, 0, 4);
        x.effect(0, 2, -1, 0, 10);
        x.effect(1, 1, -1, 0, 1);
        x.effect(0, 2, 1, 1, 6);
        for (int s : new int[] {0, 1, 2, 5, 4}) {
            x.trial(s);
        }
        return x;
    }

    private static void pairsAre(KnobBench x, int a, int v, int w, int many, int sum) {
        String call = "pairs(" + a + ", " + v + ", " + w + ", ";
        DUE.is(call + "0)", x.pairs(a, v, w, 0), many);
        DUE.is(call + "1)", x.pairs(a, v, w, 1), sum);
    }

    private static void pairs() {
        KnobBench x = fiveTried();
        pairsAre(x, 0, 0, 1, 1, 4);
        pairsAre(x, 0, 1, 0, 1, -4);
        pairsAre(x, 0, 0, 2, 1, 10);
        pairsAre(x, 0, 1, 2, 2, 18);
        pairsAre(x, 0, 2, 1, 2, -18);
        pairsAre(x, 1, 0, 1, 2, 8);
        pairsAre(x, 1, 1, 0, 2, -8);
        x.rule(false, 0, 2, 1, 1);
        pairsAre(x, 0, 1, 2, 2, 18);
        x.noise(9);
        pairsAre(x, 1, 0, 1, 2, 8);
        x.forget();
        pairsAre(x, 1, 0, 1, 0, 0);
    }

    private static void firstTrialsCount() {
        KnobBench x = fiveTried();
        x.base(100);
        x.trial(1);
        x.trial(5);
        x.trial(5);
        pairsAre(x, 0, 0, 1, 1, 4);
        pairsAre(x, 0, 1, 2, 2, 18);
        DUE.is("excess", x.excess(0, 0, 1, 2, 1, 0, 1), 6);
        x.trial(3);
        pairsAre(x, 0, 0, 1, 2, 4 + 5 - 101);
    }

    private static void badPairs() {
        KnobBench x = fiveTried();
        int[][] bad = {{-1, 0, 1, 0}, {2, 0, 1, 0}, {0, -1, 1, 0}, {0, 3, 1, 0}, {0, 0, -1, 0}, {0, 0, 3, 0},
            {1, 0, 2, 0}, {1, 2, 0, 0}, {0, 1, 1, 0}, {0, 0, 0, 1}, {0, 0, 1, -1}, {0, 0, 1, 2}, {LOW, 0, 1, 0},
            {HIGH, 0, 1, 0}, {0, LOW, 1, 0}, {0, HIGH, 1, 0}, {0, 0, LOW, 0}, {0, 0, HIGH, 0}, {0, 0, 1, LOW},
            {0, 0, 1, HIGH}};
        for (int[] b : bad) {
            String call = "pairs(" + b[0] + ", " + b[1] + ", " + b[2] + ", " + b[3] + ")";
            DUE.is(call, x.pairs(b[0], b[1], b[2], b[3]), -10000000);
        }
    }

    private static void excess() {
        KnobBench x = fiveTried();
        for (int s = 0; s < 6; s++) {
            DUE.is("in any setting", x.excess(s, 0, 1, 2, 1, 0, 1), 6);
        }
        DUE.is("the other way", x.excess(0, 0, 2, 1, 1, 0, 1), -6);
        DUE.is("the other way", x.excess(0, 0, 1, 2, 1, 1, 0), -6);
        DUE.is("both other ways", x.excess(0, 0, 2, 1, 1, 1, 0), 6);
        int[][] without = {{0, 1, 0, 1}, {1, 0, 0, 1}, {0, 2, 1, 0}, {2, 0, 1, 0}};
        for (int[] n : without) {
            DUE.is("one was not tried", x.excess(0, 0, n[0], n[1], 1, n[2], n[3]), -10000002);
            DUE.is("one was not tried", x.joint(0, 0, n[0], n[1], 1, n[2], n[3]), KnobBench.NO);
        }
        x.trial(3);
        DUE.is("now all were", x.excess(0, 0, 0, 2, 1, 0, 1), 6);
        DUE.is("no excess", x.excess(0, 0, 0, 1, 1, 0, 1), 0);
        DUE.is("it is not joint", x.joint(0, 0, 0, 1, 1, 0, 1), 0);
    }

    private static void excessInASetting() {
        KnobBench x = new KnobBench();
        x.knob(2);
        x.knob(2);
        x.knob(2);
        x.effect(0, 1, 2, 1, 3);
        for (int s = 0; s < 7; s++) {
            x.trial(s);
        }
        x.base(10);
        x.trial(7);
        DUE.is("0 and 2, knob 1 at 0", x.excess(0, 0, 0, 1, 2, 0, 1), 3);
        DUE.is("0 and 2, knob 1 at 1", x.excess(2, 0, 0, 1, 2, 0, 1), 13);
        DUE.is("0 and 1, knob 2 at 0", x.excess(3, 0, 0, 1, 1, 0, 1), 0);
        DUE.is("0 and 1, knob 2 at 1", x.excess(5, 0, 0, 1, 1, 0, 1), 10);
        DUE.is("1 and 2, knob 0 at 0", x.excess(6, 1, 0, 1, 2, 0, 1), 0);
        DUE.is("1 and 2, knob 0 at 1", x.excess(1, 1, 0, 1, 2, 0, 1), 10);
        x.forget();
        for (int s : new int[] {0, 1, 2, 3, 4, 5, 6}) {
            x.trial(s);
        }
        DUE.is("with knob 2 at 0 all were tried", x.excess(0, 0, 0, 1, 1, 0, 1), 0);
        DUE.is("with knob 2 at 1 not", x.excess(4, 0, 0, 1, 1, 0, 1), -10000002);
    }

    private static void badExcess() {
        KnobBench x = fiveTried();
        x.trial(3);
        int[][] bad = {{-1, 0, 0, 1, 1, 0, 1}, {6, 0, 0, 1, 1, 0, 1}, {0, -1, 0, 1, 1, 0, 1}, {0, 0, 0, 1, 2, 0, 1},
            {0, 1, 0, 1, 0, 0, 1}, {0, 1, 0, 1, 1, 0, 1}, {0, 0, -1, 1, 1, 0, 1}, {0, 0, 3, 1, 1, 0, 1},
            {0, 0, 0, -1, 1, 0, 1}, {0, 0, 0, 3, 1, 0, 1}, {0, 0, 0, 1, 1, -1, 1}, {0, 0, 0, 1, 1, 2, 1},
            {0, 0, 0, 1, 1, 0, -1}, {0, 0, 0, 1, 1, 0, 2}, {0, 0, 1, 1, 1, 0, 1}, {0, 0, 0, 1, 1, 1, 1},
            {LOW, 0, 0, 1, 1, 0, 1}, {HIGH, 0, 0, 1, 1, 0, 1}, {0, LOW, 0, 1, 1, 0, 1}, {0, 0, LOW, 1, 1, 0, 1},
            {0, 0, 0, HIGH, 1, 0, 1}, {0, 0, 0, 1, HIGH, 0, 1}, {0, 0, 0, 1, 1, LOW, 1}, {0, 0, 0, 1, 1, 0, HIGH}};
        for (int round = 0; round < 2; round++) {
            for (int[] b : bad) {
                DUE.is("BAD excess", x.excess(b[0], b[1], b[2], b[3], b[4], b[5], b[6]), -10000001);
                DUE.is("BAD joint", x.joint(b[0], b[1], b[2], b[3], b[4], b[5], b[6]), KnobBench.BAD);
            }
            // BAD comes ahead of NO.
            x.forget();
        }
    }

    private static void joint() {
        KnobBench x = new KnobBench();
        x.knob(2);
        x.knob(2);
        x.effect(0, 1, 1, 1, 8);
        for (int s = 0; s < 4; s++) {
            x.trial(s);
        }
        int[] joint = {1, 1, 0, 0};
        for (int z = 0; z < joint.length; z++) {
            x.noise(z);
            DUE.is("8 with noise " + z, x.joint(0, 0, 0, 1, 1, 0, 1), joint[z]);
            DUE.is("-8 with noise " + z, x.joint(0, 0, 1, 0, 1, 0, 1), joint[z]);
        }
        x.noise(0);
        x.effect(0, 1, 1, 1, 9);
        x.forget();
        for (int s = 0; s < 4; s++) {
            x.trial(s);
        }
        x.noise(2);
        DUE.is("9 with noise 2", x.joint(0, 0, 0, 1, 1, 0, 1), 1);
        DUE.is("-9 with noise 2", x.joint(0, 0, 0, 1, 1, 1, 0), 1);
    }
}
