/** Promises 9, 10, 17, 18 and 19: noise, the seed, trials, what they read, forgetting them. */
public final class TrialsTest {
    private static final int LOW = Integer.MIN_VALUE;
    private static final int HIGH = Integer.MAX_VALUE;
    private static final Due DUE = new Due("TrialsTest");

    public static void main(String[] args) {
        noise();
        seed();
        readings();
        seedGoesOnWithoutNoise();
        trialRefusals();
        toldLater();
        read();
        forget();
        DUE.end();
    }

    private static KnobBench twoByTwo() {
        KnobBench x = new KnobBench();
        x.knob(2);
        x.knob(2);
        return x;
    }

    private static void noise() {
        KnobBench x = twoByTwo();
        DUE.is("noise(50)", x.noise(50), 0);
        for (int bad : new int[] {LOW, -1, 51, HIGH}) {
            DUE.is("noise(" + bad + ")", x.noise(bad), KnobBench.BAD);
        }
        DUE.is("it is 50", x.count(5), 50);
        DUE.is("noise(0)", x.noise(0), 50);
        DUE.is("noise(1)", x.noise(1), 0);
        DUE.is("it is 1", x.count(5), 1);
    }

    private static void seed() {
        KnobBench x = twoByTwo();
        x.noise(50);
        DUE.is("seed(0)", x.seed(0), 0);
        for (int bad : new int[] {LOW, -1, 1073741824, HIGH}) {
            DUE.is("seed(" + bad + ")", x.seed(bad), KnobBench.BAD);
        }
        // 0 becomes 5; 5 / 64 is 0; less 50.
        x.trial(0);
        DUE.is("by seed 0", x.read(0, 0), -50);
        DUE.is("seed(1073741823)", x.seed(1073741823), 0);
        // -69069 + 5 modulo 1073741824 = 1073672760; / 64 = 16776136; modulo 101 = 36; less 50.
        x.trial(0);
        DUE.is("by the last seed", x.read(1, 0), -14);
        x.seed(1);
        x.trial(0);
        DUE.is("by seed 1", x.read(2, 0), 19);
    }

    private static void readings() {
        KnobBench x = twoByTwo();
        x.base(100);
        x.effect(0, 1, -1, 0, 7);
        int[] noises = {50, 1, 0, 2, 33};
        long seed = 12345;
        x.seed(12345);
        for (int i = 0; i < 55; i++) {
            int z = noises[i % noises.length];
            int setting = i % 4;
            x.noise(z);
            DUE.is("trial", x.trial(setting), i + 1);
            seed = (seed * 69069 + 5) % (1L << 30);
            int worth = 100 + 7 * (setting % 2);
            DUE.is("read(" + i + ", 0)", x.read(i, 0), worth + (int) (seed / 64 % (2 * z + 1)) - z);
            DUE.is("read(" + i + ", 1)", x.read(i, 1), setting);
        }
    }

    private static void seedGoesOnWithoutNoise() {
        KnobBench x = twoByTwo();
        x.trial(0);
        DUE.is("no noise", x.read(0, 0), 0);
        x.noise(50);
        x.trial(0);
        // 69074 becomes 475904815; / 64 = 7436012; modulo 101 = 89; less 50.
        DUE.is("the second of seed 1", x.read(1, 0), 39);
    }

    private static void trialRefusals() {
        KnobBench x = twoByTwo();
        x.noise(50);
        x.rule(false, 0, 1, 1, 1);
        String before = Look.at(x);
        for (int bad : new int[] {LOW, -1, 4, HIGH}) {
            DUE.is("trial(" + bad + ")", x.trial(bad), KnobBench.BAD);
        }
        DUE.is("a banned one", x.trial(3), KnobBench.NO);
        DUE.same("after refusals", Look.at(x), before);
        x.trial(0);
        DUE.is("the seed stayed", x.read(0, 0), 19);
        for (int i = 2; i <= 60; i++) {
            DUE.is("trial", x.trial(2), i);
        }
        DUE.is("a 61st", x.trial(2), KnobBench.FULL);
        DUE.is("a 61st, banned", x.trial(3), KnobBench.NO);
        DUE.is("a 61st, BAD", x.trial(4), KnobBench.BAD);
        DUE.is("60 are there", x.count(3), 60);
        x.forget();
        long seed = 1;
        for (int i = 0; i < 61; i++) {
            seed = (seed * 69069 + 5) % (1L << 30);
        }
        DUE.is("one again", x.trial(0), 1);
        DUE.is("FULL drew no seed", x.read(0, 0), (int) (seed / 64 % 101) - 50);
    }

    private static void toldLater() {
        KnobBench x = twoByTwo();
        x.effect(0, 1, -1, 0, 10);
        x.trial(1);
        x.effect(0, 1, -1, 0, 20);
        x.base(5);
        x.rule(false, 0, 1, 1, 0);
        DUE.is("read as it was", x.read(0, 0), 10);
        DUE.is("a trial of what is banned by now stays", x.count(3), 1);
        DUE.is("and bounds by it", x.bound(1, 1), 10);
        DUE.is("a new one is refused", x.trial(1), KnobBench.NO);
        x.noRule();
        DUE.is("a new one", x.trial(1), 2);
        DUE.is("reads what it is worth now", x.read(1, 0), 25);
    }

    private static void read() {
        KnobBench x = twoByTwo();
        DUE.is("none is there", x.read(0, 0), -100000);
        x.trial(2);
        int[][] bad = {{-1, 0}, {1, 0}, {1, 1}, {0, -1}, {0, 2}, {LOW, 0}, {HIGH, 0}, {59, 0}, {60, 0}, {0, LOW}, {0, HIGH}};
        for (int[] b : bad) {
            DUE.is("read(" + b[0] + ", " + b[1] + ")", x.read(b[0], b[1]), -100000);
        }
        DUE.is("read(0, 0)", x.read(0, 0), 0);
        DUE.is("read(0, 1)", x.read(0, 1), 2);
    }

    private static void forget() {
        KnobBench x = twoByTwo();
        DUE.is("nothing to forget", x.forget(), 0);
        x.noise(3);
        x.rule(false, 0, 1, 1, 1);
        x.trial(0);
        x.trial(1);
        x.trial(1);
        DUE.is("three", x.forget(), 3);
        DUE.is("none", x.count(3), 0);
        DUE.is("none was tried", x.count(4), 0);
        DUE.is("no floor", x.bound(0, 0), -1000000);
        DUE.is("read", x.read(0, 0), -100000);
        DUE.is("noise stays", x.count(5), 3);
        DUE.is("rules stay", x.count(2), 1);
        DUE.is("again", x.forget(), 0);
    }
}
