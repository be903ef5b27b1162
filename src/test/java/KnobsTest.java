/** Promises 1 to 4, 11, 12 and 29: a new object, knobs, places, steepness, numbers, counts. */
public final class KnobsTest {
    private static final int LOW = Integer.MIN_VALUE;
    private static final int HIGH = Integer.MAX_VALUE;
    private static final Due DUE = new Due("KnobsTest");

    public static void main(String[] args) {
        newObject();
        knobNumbersAndRefusals();
        knobFullBySix();
        knobFullBySettings();
        knobFullChangesNothing();
        knobKeepsAllButTrials();
        place();
        steep();
        withAndValue();
        count();
        DUE.end();
    }

    private static void newObject() {
        KnobBench x = new KnobBench();
        int[] counts = {0, 1, 0, 0, 0, 0};
        for (int what = 0; what < counts.length; what++) {
            DUE.is("new: count(" + what + ")", x.count(what), counts[what]);
        }
        DUE.is("new: book", x.book(), 1);
        DUE.is("new: allowed(0)", x.allowed(0), 1);
        DUE.is("new: worth(0)", x.worth(0), 0);
        DUE.is("new: best(0)", x.best(0), 0);
        DUE.is("new: best(1)", x.best(1), 0);
        DUE.is("new: bound(0, 0)", x.bound(0, 0), -1000000);
        DUE.is("new: bound(0, 1)", x.bound(0, 1), 1000000);
        DUE.is("new: left(0)", x.left(0), 1);
        DUE.is("new: left(1)", x.left(1), 0);
        DUE.is("new: left(2)", x.left(2), 1);
        DUE.is("new: search(30)", x.search(30), 0);
        DUE.is("new: back(0, 0)", x.back(0, 0), 0);
        DUE.is("new: noise", x.noise(50), 0);
        DUE.is("new: base", x.base(0), 0);
        DUE.is("new: noRule", x.noRule(), KnobBench.NO);
        DUE.is("new: forget", x.forget(), 0);
        DUE.is("new: trial(0)", x.trial(0), 1);
        // SEED 1 becomes 69074; 69074 / 64 = 1079; 1079 modulo 101 = 69; less 50.
        DUE.is("new: read(0, 0)", x.read(0, 0), 19);
    }

    private static void knobNumbersAndRefusals() {
        KnobBench x = new KnobBench();
        for (int bad : new int[] {LOW, -2, -1, 0, 1, 5, 6, HIGH}) {
            DUE.is("knob(" + bad + ")", x.knob(bad), KnobBench.BAD);
        }
        DUE.is("count(0) after BAD", x.count(0), 0);
        DUE.is("knob(2)", x.knob(2), 0);
        DUE.is("knob(3)", x.knob(3), 1);
        DUE.is("knob(4)", x.knob(4), 2);
        DUE.is("count(0)", x.count(0), 3);
        DUE.is("count(1)", x.count(1), 24);
        for (int k = 0; k < 3; k++) {
            for (int v = 0; v < k + 2; v++) {
                DUE.is("place at first", x.place(k, v, v), v);
            }
            DUE.is("steep at first", x.steep(k, 0), 0);
        }
    }

    private static void knobFullBySix() {
        KnobBench x = new KnobBench();
        for (int k = 0; k < 6; k++) {
            DUE.is("knob(2)", x.knob(2), k);
        }
        DUE.is("64 settings", x.count(1), 64);
        DUE.is("a seventh", x.knob(2), KnobBench.FULL);
        DUE.is("a seventh that is BAD", x.knob(5), KnobBench.BAD);
        DUE.is("still six", x.count(0), 6);
        DUE.is("still 64", x.count(1), 64);
    }

    private static void knobFullBySettings() {
        KnobBench x = new KnobBench();
        x.knob(4);
        x.knob(4);
        x.knob(4);
        DUE.is("192 settings", x.knob(3), KnobBench.FULL);
        DUE.is("128 settings", x.knob(2), 3);
        DUE.is("256 settings", x.knob(2), KnobBench.FULL);
        DUE.is("128 stay", x.count(1), 128);
        KnobBench y = new KnobBench();
        y.knob(4);
        y.knob(4);
        y.knob(3);
        DUE.is("192 settings", y.knob(4), KnobBench.FULL);
        DUE.is("144 settings", y.knob(3), 3);
        DUE.is("144", y.count(1), 144);
        DUE.is("the last one", y.worth(143), 0);
        DUE.is("no more", y.worth(144), -100000);
        KnobBench z = new KnobBench();
        for (int values : new int[] {3, 2, 2, 3, 2, 2}) {
            z.knob(values);
        }
        DUE.is("144 of six", z.count(1), 144);
        DUE.is("six", z.count(0), 6);
    }

    private static void knobFullChangesNothing() {
        KnobBench x = new KnobBench();
        for (int k = 0; k < 6; k++) {
            x.knob(2);
        }
        x.trial(5);
        x.knob(2);
        x.knob(9);
        DUE.is("trials stay where no knob comes", x.count(3), 1);
        DUE.is("and what was read of", x.read(0, 1), 5);
    }

    private static void knobKeepsAllButTrials() {
        KnobBench x = new KnobBench();
        x.knob(2);
        x.knob(3);
        x.base(7);
        x.effect(0, 1, -1, 0, 20);
        x.effect(0, 1, 1, 2, 300);
        x.rule(false, 0, 0, 1, 1);
        x.noise(4);
        x.steep(1, 9);
        x.place(1, 2, -30);
        x.trial(0);
        x.trial(0);
        DUE.is("trials before", x.count(3), 2);
        DUE.is("a knob comes", x.knob(2), 2);
        DUE.is("trials go", x.count(3), 0);
        DUE.is("tried go", x.count(4), 0);
        DUE.is("floor goes", x.bound(0, 0), -1000000);
        DUE.is("rules stay", x.count(2), 1);
        DUE.is("the ban", x.allowed(2), 0);
        DUE.is("the ban with the new knob", x.allowed(8), 0);
        DUE.is("worth stays", x.worth(5), 327);
        DUE.is("worth with the new knob", x.worth(11), 327);
        DUE.is("noise stays", x.count(5), 4);
        DUE.is("steepness stays", x.steep(1, 0), 9);
        DUE.is("place stays", x.place(1, 2, 0), -30);
        // SEED went on twice, and goes on from there.
        long seed = 1;
        for (int i = 0; i < 3; i++) {
            seed = (seed * 69069 + 5) % 1073741824;
        }
        x.trial(0);
        DUE.is("the seed goes on", x.read(0, 0), 7 + (int) (seed / 64 % 9) - 4);
    }

    private static void place() {
        KnobBench x = new KnobBench();
        x.knob(2);
        x.knob(4);
        x.steep(1, 1);
        x.trial(0);
        int[][] bad = {{-1, 0, 0}, {2, 0, 0}, {0, -1, 0}, {0, 2, 0}, {1, 4, 0}, {0, 0, 101}, {0, 0, -101},
            {LOW, 0, 0}, {HIGH, 0, 0}, {1, LOW, 0}, {1, HIGH, 0}, {1, 1, LOW}, {1, 1, HIGH}};
        String before = Look.at(x);
        for (int[] b : bad) {
            DUE.is("place(" + b[0] + ", " + b[1] + ", " + b[2] + ")", x.place(b[0], b[1], b[2]), -1000);
        }
        DUE.same("after BAD places", Look.at(x), before);
        DUE.is("to 100", x.place(1, 3, 100), 3);
        DUE.is("to -100", x.place(1, 3, -100), 100);
        DUE.is("how far that is", x.bound(6, 1), 100);
        DUE.is("from -100", x.place(1, 3, 5), -100);
        DUE.is("how far that is", x.bound(6, 1), 5);
        DUE.is("another value is not moved", x.place(1, 2, 2), 2);
        DUE.is("another knob is not moved", x.place(0, 1, 1), 1);
        DUE.is("two may be at one place", x.place(1, 0, 5), 0);
        DUE.is("then they are not apart", x.bound(6, 1), 0);
    }

    private static void steep() {
        KnobBench x = new KnobBench();
        DUE.is("steep without knobs", x.steep(0, 0), KnobBench.BAD);
        x.knob(2);
        x.knob(3);
        x.trial(0);
        String before = Look.at(x);
        int[][] bad = {{-1, 0}, {2, 0}, {0, -1}, {0, 101}, {LOW, 1}, {HIGH, 1}, {1, LOW}, {1, HIGH}};
        for (int[] b : bad) {
            DUE.is("steep(" + b[0] + ", " + b[1] + ")", x.steep(b[0], b[1]), KnobBench.BAD);
        }
        DUE.same("after BAD steepness", Look.at(x), before);
        DUE.is("to 100", x.steep(1, 100), 0);
        DUE.is("it counts", x.bound(4, 1), 200);
        DUE.is("to 0", x.steep(1, 0), 100);
        DUE.is("of the other", x.steep(0, 3), 0);
        DUE.is("each its own", x.steep(1, 1), 0);
        DUE.is("both", x.bound(5, 1), 5);
    }

    private static void withAndValue() {
        KnobBench x = new KnobBench();
        x.knob(2);
        x.knob(3);
        x.knob(4);
        for (int s = 0; s < 24; s++) {
            int[] v = {s % 2, s / 2 % 3, s / 6};
            for (int k = 0; k < 3; k++) {
                DUE.is("value(" + s + ", " + k + ")", x.value(s, k), v[k]);
            }
        }
        DUE.is("with(23, 0, 0)", x.with(23, 0, 0), 22);
        DUE.is("with(23, 1, 0)", x.with(23, 1, 0), 19);
        DUE.is("with(23, 1, 1)", x.with(23, 1, 1), 21);
        DUE.is("with(23, 2, 0)", x.with(23, 2, 0), 5);
        DUE.is("with(0, 2, 3)", x.with(0, 2, 3), 18);
        DUE.is("with(11, 1, 2)", x.with(11, 1, 2), 11);
        int[][] bad = {{-1, 0, 0}, {24, 0, 0}, {0, -1, 0}, {0, 3, 0}, {0, 0, 2}, {0, 1, 3}, {0, 2, 4}, {0, 0, -1},
            {LOW, 0, 0}, {HIGH, 0, 0}, {0, LOW, 0}, {0, HIGH, 0}, {0, 0, LOW}, {0, 0, HIGH}};
        for (int[] b : bad) {
            DUE.is("with(" + b[0] + ", " + b[1] + ", " + b[2] + ")", x.with(b[0], b[1], b[2]), KnobBench.BAD);
        }
        int[][] none = {{-1, 0}, {24, 0}, {0, -1}, {0, 3}, {LOW, 0}, {HIGH, 0}, {0, LOW}, {0, HIGH}};
        for (int[] b : none) {
            DUE.is("value(" + b[0] + ", " + b[1] + ")", x.value(b[0], b[1]), KnobBench.BAD);
        }
        DUE.is("without knobs: with", new KnobBench().with(0, 0, 0), KnobBench.BAD);
        DUE.is("without knobs: value", new KnobBench().value(0, 0), KnobBench.BAD);
    }

    private static void count() {
        KnobBench x = new KnobBench();
        x.knob(3);
        x.knob(2);
        x.rule(false, 0, 2, 1, 1);
        x.noise(7);
        x.trial(1);
        x.trial(4);
        x.trial(1);
        int[] counts = {2, 6, 1, 3, 2, 7};
        for (int what = 0; what < counts.length; what++) {
            DUE.is("count(" + what + ")", x.count(what), counts[what]);
        }
        for (int bad : new int[] {LOW, -1, 6, 7, HIGH}) {
            DUE.is("count(" + bad + ")", x.count(bad), KnobBench.BAD);
        }
    }
}
