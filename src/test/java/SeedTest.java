import java.math.BigInteger;

/** A wrap-around: how the seed goes on, and what a trial reads by it. */
public final class SeedTest {
    private static final Due DUE = new Due("SeedTest");
    private static final int LAST = 1073741823;

    public static void main(String[] args) {
        lastSeed();
        firstSeeds();
        aroundTheWrap();
        manyTurns();
        cutBy64();
        farthestNoise();
        noNoise();
        eachTrialOnce();
        DUE.end();
    }

    private static Run run(String before) {
        return new Run(DUE, before);
    }

    /** The seeds that come one after another, by whole numbers without an end. */
    private static int after(int seed) {
        BigInteger next = BigInteger.valueOf(seed).multiply(BigInteger.valueOf(69069)).add(BigInteger.valueOf(5));
        return next.mod(BigInteger.valueOf(1073741824)).intValueExact();
    }

    private static void lastSeed() {
        DUE.by("becomes (SEED times 69069 and 5) modulo 1073741824");
        // -1 becomes -69069 + 5, which is 1073672760; by 64 and cut 16776136; modulo 101 it is 36; less 50.
        run("seed(1073741823); noise(50); trial(0)").is("read(0, 0)", -14);
        run("seed(1073741823); noise(50); 5 x trial(0)").is("read(0, 0)", -14, "read(1, 0)", -49, "read(2, 0)", 28,
            "read(3, 0)", 20, "read(4, 0)", -48);
        run("seed(1073741823); noise(2); 5 x trial(0)").is("read(0, 0)", -1, "read(1, 0)", -2, "read(2, 0)", -1,
            "read(3, 0)", -1, "read(4, 0)", 0);
        run("base(1000); seed(1073741823); noise(1); trial(0); trial(0)").is("read(0, 0)", 1000, "read(1, 0)", 1001);
    }

    private static void firstSeeds() {
        DUE.by("The SEED (0 to 1073741823): 0. BAD.");
        // 0 becomes 5, and that 345350: by 64 and cut 0 and 5396; modulo 101 that is 0 and 43.
        run("noise(50)").is("seed(0)", 0, "trial(0)", 1, "trial(0)", 2, "read(0, 0)", -50, "read(1, 0)", -7);
        run("noise(50)").is("seed(1)", 0, "trial(0)", 1, "trial(0)", 2, "read(0, 0)", 19, "read(1, 0)", 39);
        // The seed that is refused leaves the one that was.
        run("noise(50); seed(0)").is("seed(1073741824)", -1, "seed(-1)", -1, "trial(0)", 1, "read(0, 0)", -50);
    }

    private static void aroundTheWrap() {
        DUE.by("modulo 1073741824");
        // These become 0, 1, 63, 64 and, as great as can be, 1073741760 and 1073741823.
        int[] from = {43171047, 678781932, 358209314, 993820199, 166263719, 481301986};
        int[] to = {0, 1, 63, 64, 1073741760, LAST};
        int[] by50 = {-50, -50, -50, -49, -46, -46};
        int[] by1 = {-1, -1, -1, 0, -1, -1};
        for (int i = 0; i < from.length; i++) {
            DUE.is("after " + from[i], after(from[i]), to[i]);
            run("seed(" + from[i] + "); noise(50); trial(0)").is("read(0, 0)", by50[i]);
            run("seed(" + from[i] + "); noise(1); trial(0)").is("read(0, 0)", by1[i]);
            // What comes next is as if that had been told.
            Run told = run("seed(" + to[i] + "); noise(50); trial(0)");
            run("seed(" + from[i] + "); noise(50); trial(0); trial(0)").is("read(1, 0)", told.ask("read(0, 0)"));
        }
    }

    private static void manyTurns() {
        DUE.by("SEED (1 at first) becomes (SEED times 69069 and 5) modulo 1073741824; that, divided by 64 and cut, modulo 2 z + 1, less z");
        int[] seeds = {0, 1, 2, 46340, 65536, 536870911, 536870912, LAST - 1, LAST};
        int[] noises = {0, 1, 2, 3, 31, 32, 49, 50};
        for (int first : seeds) {
            Run x = run("seed(" + first + ")");
            int seed = first;
            for (int i = 0; i < 60; i++) {
                int z = noises[i % noises.length];
                seed = after(seed);
                x.does("noise(" + z + "); trial(0)");
                x.is("read(" + i + ", 0)", seed / 64 % (2 * z + 1) - z);
            }
        }
    }

    private static void cutBy64() {
        DUE.by("that, divided by 64 and cut");
        // 678781932 and 358209314 become 1 and 63, which are cut to 0; 993820199 becomes 64.
        run("seed(358209314); noise(2); trial(0)").is("read(0, 0)", -2);
        run("seed(993820199); noise(2); trial(0)").is("read(0, 0)", -1);
    }

    private static void farthestNoise() {
        DUE.by("its WORTH and a number from - z to z");
        // Each becomes 64 times 2 z (and 63 more), the greatest there is, and 64 times 2 z + 1: the least again.
        int[] noises = {1, 2, 50};
        int[] greatest = {870727527, 624542183, 618805735};
        int[] stillGreatest = {112023970, 939580450, 933844002};
        int[] leastAgain = {747634855, 501449511, 495713063};
        for (int i = 0; i < noises.length; i++) {
            int z = noises[i];
            String before = "base(-1000); noise(" + z + "); seed(";
            run(before + greatest[i] + "); trial(0)").is("read(0, 0)", z - 1000);
            run(before + stillGreatest[i] + "); trial(0)").is("read(0, 0)", z - 1000);
            run(before + leastAgain[i] + "); trial(0)").is("read(0, 0)", -z - 1000);
        }
    }

    private static void noNoise() {
        DUE.by("SEED (1 at first) becomes");
        // A trial without noise reads what it is worth, and the seed goes on all the same.
        run("base(9); trial(0); noise(50); trial(0)").is("read(0, 0)", 9, "read(1, 0)", 9 + 39);
        run("seed(1073741823); base(9); trial(0); noise(50); trial(0)").is("read(0, 0)", 9, "read(1, 0)", 9 - 49);
    }

    private static void eachTrialOnce() {
        DUE.by("A SEARCH tries NEXT, again and again");
        // A search's trials read by seeds that follow one another, as those of single trials do.
        Run searched = run("knob(2); noise(50); seed(1073741823); search(3); search(2); trial(0)");
        Run tried = run("knob(2); noise(50); seed(1073741823); 6 x trial(0)");
        for (int i = 0; i < 6; i++) {
            searched.is("read(" + i + ", 0)", tried.ask("read(" + i + ", 0)"));
        }
    }
}
