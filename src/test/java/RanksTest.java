/** Promises 26 and 27: the odds by ranks, and safe steps. */
public final class RanksTest {
    private static final int LOW = Integer.MIN_VALUE;
    private static final int HIGH = Integer.MAX_VALUE;
    private static final Due DUE = new Due("RanksTest");

    public static void main(String[] args) {
        oneEach();
        tied();
        ends();
        firstEightCount();
        refusals();
        safe();
        DUE.end();
    }

    /** A bench on which 0 read xs, 1 read ys, by turns. */
    private static KnobBench read(int[] xs, int[] ys) {
        KnobBench x = new KnobBench();
        x.knob(3);
        for (int i = 0; i < Math.max(xs.length, ys.length); i++) {
            if (i < ys.length) {
                x.base(ys[i]);
                x.trial(1);
            }
            if (i < xs.length) {
                x.base(xs[i]);
                x.trial(0);
            }
        }
        return x;
    }

    private static void oddsAre(KnobBench x, int from, int to, int ways, int all) {
        DUE.is("odds(" + from + ", " + to + ", 0)", x.odds(from, to, 0), ways);
        DUE.is("odds(" + from + ", " + to + ", 1)", x.odds(from, to, 1), all);
    }

    private static void oneEach() {
        KnobBench x = read(new int[] {3}, new int[] {4});
        oddsAre(x, 0, 1, 1, 2);
        oddsAre(x, 1, 0, 2, 2);
        KnobBench alike = read(new int[] {3}, new int[] {3});
        oddsAre(alike, 0, 1, 2, 2);
        oddsAre(alike, 1, 0, 2, 2);
        oddsAre(read(new int[] {-5}, new int[] {1, 2, 3}), 0, 1, 1, 4);
        oddsAre(read(new int[] {2}, new int[] {1, 3}), 0, 1, 2, 3);
    }

    private static void tied() {
        // Ranks of 1, 2, 2, 2, 3 are 0, 4, 4, 4, 8; y's are 4 and 8: three of ten pairs have 12.
        KnobBench x = read(new int[] {1, 2, 2}, new int[] {2, 3});
        oddsAre(x, 0, 1, 3, 10);
        // x's are 0, 4, 4; of ten threes but 0, 4, 4 and its likes have less: none.
        oddsAre(x, 1, 0, 10, 10);
        // Ranks of 5, 5, 6, 6 are 1, 1, 5, 5; y's sum is 6: all but 1 and 1.
        KnobBench y = read(new int[] {5, 6}, new int[] {6, 5});
        oddsAre(y, 0, 1, 5, 6);
        oddsAre(y, 1, 0, 5, 6);
        // Ranks of 1, 2, 2, 3 are 0, 3, 3, 6; y's sum is 6: as much as 0 and 6, less than 3 and 6.
        KnobBench middle = read(new int[] {1, 3}, new int[] {2, 2});
        oddsAre(middle, 0, 1, 4, 6);
        oddsAre(middle, 1, 0, 4, 6);
    }

    private static void ends() {
        int[] low = {1, 2, 3, 4, 5, 6, 7, 8};
        int[] high = {11, 12, 13, 14, 15, 16, 17, 18};
        KnobBench x = read(low, high);
        oddsAre(x, 0, 1, 1, 12870);
        oddsAre(x, 1, 0, 12870, 12870);
        KnobBench alike = read(new int[] {1, 1, 1, 1, 1, 1, 1, 1}, new int[] {1, 1, 1, 1, 1, 1, 1, 1});
        oddsAre(alike, 0, 1, 12870, 12870);
        KnobBench one = read(new int[] {9}, high);
        oddsAre(one, 0, 1, 1, 9);
        oddsAre(one, 1, 0, 9, 9);
    }

    private static void firstEightCount() {
        int[] low = {1, 2, 3, 4, 5, 6, 7, 8, 1000, 1000};
        int[] high = {11, 12, 13, 14, 15, 16, 17, 18, -1000, -1000, -1000};
        KnobBench x = read(low, high);
        oddsAre(x, 0, 1, 1, 12870);
        oddsAre(x, 1, 0, 12870, 12870);
        DUE.is("all trials are there", x.count(3), 21);
    }

    private static void refusals() {
        KnobBench x = read(new int[] {1}, new int[] {2});
        int[][] bad = {{-1, 1, 0}, {3, 1, 0}, {0, -1, 0}, {0, 3, 0}, {0, 0, 0}, {2, 2, 0}, {0, 1, -1}, {0, 1, 2},
            {0, 2, 2}, {LOW, 1, 0}, {HIGH, 1, 0}, {0, LOW, 0}, {0, HIGH, 0}, {0, 1, LOW}, {0, 1, HIGH}};
        for (int[] b : bad) {
            DUE.is("odds(" + b[0] + ", " + b[1] + ", " + b[2] + ")", x.odds(b[0], b[1], b[2]), KnobBench.BAD);
        }
        DUE.is("y was not tried", x.odds(0, 2, 0), KnobBench.NO);
        DUE.is("y was not tried", x.odds(0, 2, 1), KnobBench.NO);
        DUE.is("x was not tried", x.odds(2, 0, 0), KnobBench.NO);
        int[][] unsafe = {{-1, 1, 1, 1}, {3, 1, 1, 1}, {0, -1, 1, 1}, {0, 3, 1, 1}, {1, 1, 1, 1}, {2, 2, 1, 1},
            {0, 1, -1, 1}, {0, 1, 1001, 1}, {0, 1, 1, 0}, {0, 1, 1, -1}, {0, 1, 1, 1001}, {0, 2, 1, 0},
            {LOW, 1, 1, 1}, {0, HIGH, 1, 1}, {0, 1, LOW, 1}, {0, 1, HIGH, 1}, {0, 1, 1, LOW}, {0, 1, 1, HIGH}};
        for (int[] b : unsafe) {
            String call = "safe(" + b[0] + ", " + b[1] + ", " + b[2] + ", " + b[3] + ")";
            DUE.is(call, x.safe(b[0], b[1], b[2], b[3]), KnobBench.BAD);
        }
        DUE.is("y was not tried", x.safe(0, 2, 1, 1), KnobBench.NO);
        DUE.is("x was not tried", x.safe(2, 0, 1, 1), KnobBench.NO);
    }

    private static void safe() {
        KnobBench x = read(new int[] {1, 2, 2}, new int[] {2, 3});
        DUE.is("3 by 10 is 3 by 10", x.safe(0, 1, 3, 10), 1);
        DUE.is("3 by 10 is 300 by 1000", x.safe(0, 1, 300, 1000), 1);
        DUE.is("3 by 10 is above 299 by 1000", x.safe(0, 1, 299, 1000), 0);
        DUE.is("3 by 10 is below 1 by 3", x.safe(0, 1, 1, 3), 1);
        DUE.is("never 0", x.safe(0, 1, 0, 1), 0);
        DUE.is("always 1000 by 1", x.safe(1, 0, 1000, 1), 1);
        DUE.is("1 is 1", x.safe(1, 0, 1000, 1000), 1);
        DUE.is("1 is above 999 by 1000", x.safe(1, 0, 999, 1000), 0);
        int[] low = {1, 2, 3, 4, 5, 6, 7, 8};
        int[] high = {11, 12, 13, 14, 15, 16, 17, 18};
        DUE.is("1 by 12870 is below 1 by 1000", read(low, high).safe(0, 1, 1, 1000), 1);
        DUE.is("12870 by 12870", read(low, high).safe(1, 0, 1000, 1000), 1);
    }
}
