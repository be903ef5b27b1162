/** Promise 28: a setting with as much put back as changes nothing. */
public final class BackTest {
    private static final int LOW = Integer.MIN_VALUE;
    private static final int HIGH = Integer.MAX_VALUE;
    private static final Due DUE = new Due("BackTest");

    public static void main(String[] args) {
        whatMattersStays();
        bansStopIt();
        knobByKnobOnce();
        fromABannedOne();
        bad();
        DUE.end();
    }

    private static KnobBench threeTwos() {
        KnobBench x = new KnobBench();
        x.knob(2);
        x.knob(2);
        x.knob(2);
        return x;
    }

    private static void whatMattersStays() {
        KnobBench x = threeTwos();
        DUE.is("nothing matters", x.back(7, 0), 0);
        DUE.is("towards itself", x.back(5, 5), 5);
        x.effect(0, 1, -1, 0, 5);
        DUE.is("knob 0 matters", x.back(7, 0), 1);
        DUE.is("knob 0 matters from the other side", x.back(0, 7), 6);
        x.effect(1, 1, -1, 0, 3);
        x.effect(2, 1, -1, 0, -3);
        DUE.is("two that only together change nothing stay", x.back(7, 0), 7);
        DUE.is("what is alike already", x.back(7, 1), 7);
        x.effect(1, 1, 2, 1, -3);
        // Worth 5 + 3 - 3 - 3 = 2 of 7; with knob 1 at 0 still 2; then with knob 2 at 0 it is 5.
        DUE.is("one of two", x.back(7, 0), 5);
    }

    private static void bansStopIt() {
        KnobBench x = threeTwos();
        x.effect(0, 1, -1, 0, 5);
        x.rule(false, 1, 0, 2, 1);
        DUE.is("knob 1 may not yet when its turn is", x.back(7, 0), 3);
        x.noRule();
        x.rule(true, 2, 1, 1, 1);
        DUE.is("a need stops it likewise", x.back(7, 0), 3);
        x.noRule();
        x.rule(false, 1, 1, 2, 0);
        DUE.is("knob 1 goes ahead", x.back(7, 0), 1);
    }

    private static void knobByKnobOnce() {
        KnobBench x = new KnobBench();
        x.knob(3);
        x.knob(4);
        x.effect(0, 2, 1, 3, 9);
        x.effect(0, 1, 1, 3, 9);
        // 11 is 2, 3; towards 1, 2 (7) knob 0 may go to 1, knob 1 then not to 2.
        DUE.is("as it is by then", x.back(11, 7), 10);
        x.effect(0, 1, 1, 2, 9);
        DUE.is("as it is by then", x.back(11, 7), 7);
    }

    private static void fromABannedOne() {
        KnobBench x = threeTwos();
        x.rule(false, 1, 0, 2, 1);
        // 5 is 1, 0, 1: with knob 0 at 0 it is banned still; with knob 2 at 0 it is not.
        DUE.is("from a banned one", x.back(5, 0), 1);
        DUE.is("from a banned one to itself", x.back(5, 5), 5);
        DUE.is("towards a banned one", x.back(0, 5), 1);
    }

    private static void bad() {
        KnobBench x = threeTwos();
        int[][] bad = {{-1, 0}, {8, 0}, {0, -1}, {0, 8}, {LOW, 0}, {HIGH, 0}, {0, LOW}, {0, HIGH}};
        for (int[] b : bad) {
            DUE.is("back(" + b[0] + ", " + b[1] + ")", x.back(b[0], b[1]), KnobBench.BAD);
        }
        x.trial(3);
        String before = Look.at(x);
        x.back(7, 0);
        DUE.same("back asks only", Look.at(x), before);
    }
}
