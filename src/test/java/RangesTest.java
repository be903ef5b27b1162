/**
 * Too small, too large: every range of the document at its least and its greatest number, which are
 * taken, and at the next one beyond each (and as far beyond as an int goes), which is refused and
 * changes nothing.
 */
public final class RangesTest {
    private static final Due DUE = new Due("RangesTest");

    /**
     * Knobs of 2, 3, 4 values (24 settings). Each setting was tried: its trial has its number and
     * reads 10, 5 more with knob 0 at 1, 20 more with knob 1 at 2, 30 less with knob 2 at 3; with that
     * 7 more with knob 0 at 1 and 12 more with knob 1 at 2. Then the base came to 12; 0 read 13 (trial
     * 24), 23 read 27 (trial 25) with noise 2; two rules came, which allow 0 and 23.
     */
    private static final String RICH = "knob(2); knob(3); knob(4); base(10); effect(0, 1, -1, 0, 5); "
        + "effect(1, 2, -1, 0, 20); effect(2, 3, -1, 0, -30); effect(0, 1, 2, 3, 7); effect(1, 2, 2, 3, 12); "
        + allTried(24) + "base(12); noise(2); seed(77); trial(0); trial(23); place(0, 1, 9); place(1, 1, 50); "
        + "steep(0, 2); steep(1, 16); steep(2, 30); rule(false, 0, 1, 1, 1); rule(true, 2, 3, 1, 2)";

    /** The numbers of an excess with one of them a #, its ends, and what the excess is there. */
    private record Four(String numbers, int least, int atLeast, int greatest, int atGreatest) {
    }

    private static final Four[] FOURS = {
        new Four("#, 0, 0, 1, 2, 0, 3", 0, 7, 23, 7), new Four("0, #, 0, 1, 2, 0, 3", 0, 7, 1, 0),
        new Four("0, 0, 0, 1, #, 0, 2", 1, 0, 2, 0), new Four("0, 0, #, 1, 2, 0, 3", 0, 7, 0, 7),
        new Four("0, 0, #, 0, 2, 0, 3", 1, -7, 1, -7), new Four("0, 0, 0, #, 2, 0, 3", 1, 7, 1, 7),
        new Four("0, 0, 1, #, 2, 0, 3", 0, -7, 0, -7), new Four("0, 1, #, 1, 2, 0, 3", 0, 0, 2, -12),
        new Four("0, 1, 1, #, 2, 0, 3", 0, 0, 2, 12), new Four("0, 1, #, 0, 2, 0, 3", 1, 0, 2, -12),
        new Four("0, 1, 0, #, 2, 0, 3", 1, 0, 2, 12), new Four("0, 1, 0, 2, 2, #, 3", 0, 12, 2, 12),
        new Four("0, 1, 0, 2, 2, #, 0", 1, 0, 3, -12), new Four("0, 1, 0, 2, 2, 0, #", 1, 0, 3, 12),
        new Four("0, 1, 0, 2, 2, 3, #", 0, -12, 2, -12), new Four("0, 0, 0, 1, 1, #, 2", 0, 0, 1, 0),
        new Four("0, 0, 0, 1, 1, #, 0", 1, 0, 2, 0), new Four("0, 0, 0, 1, 1, 2, #", 0, 0, 1, 0),
        new Four("0, 0, 0, 1, 1, 0, #", 1, 0, 2, 0),
    };

    /** Numbers that are all there, but a is not below b, v is v' or w is w'. */
    private static final String[] NOT_FOUR = {
        "0, 0, 0, 1, 0, 0, 1", "0, 1, 0, 1, 1, 0, 1", "0, 2, 0, 1, 2, 2, 3", "0, 1, 0, 1, 0, 0, 1",
        "0, 2, 0, 1, 0, 0, 1", "0, 2, 0, 1, 1, 0, 1", "0, 1, 0, 0, 2, 0, 3", "0, 1, 2, 2, 2, 0, 3",
        "0, 1, 0, 2, 2, 0, 0", "0, 1, 0, 2, 2, 3, 3", "0, 0, 1, 1, 1, 2, 2",
    };

    public static void main(String[] args) {
        knobsAndPlaces();
        steepness();
        rules();
        singleEffects();
        jointEffects();
        base();
        noise();
        seed();
        settings();
        best();
        trials();
        bounds();
        turns();
        pairs();
        excess();
        joint();
        odds();
        safe();
        back();
        count();
        DUE.end();
    }

    private static String allTried(int settings) {
        StringBuilder s = new StringBuilder();
        for (int x = 0; x < settings; x++) {
            s.append("trial(").append(x).append("); ");
        }
        return s.toString();
    }

    private static String with(String call, int number) {
        return call.replace("#", Integer.toString(number));
    }

    /** The number # of a call is taken at both ends, with these answers, and refused beyond them. */
    private static void range(String call, int least, int atLeast, int greatest, int atGreatest, int refusal) {
        new Run(DUE, RICH).is(with(call, least), atLeast);
        new Run(DUE, RICH).is(with(call, greatest), atGreatest);
        for (int beyond : new int[] {least - 1, greatest + 1, Integer.MIN_VALUE, Integer.MAX_VALUE}) {
            Run.refused(DUE, RICH, with(call, beyond), refusal);
        }
    }

    private static void knobsAndPlaces() {
        DUE.by("have 2 to 4 VALUES 0, 1, ..");
        range("knob(#)", 2, 3, 4, 3, -1);
        new Run(DUE, RICH).is("knob(2)", 3, "count(1)", 48, "value(47, 3)", 1, "place(3, 1, 0)", 1, "place(3, 2, 0)", -1000);
        new Run(DUE, RICH).is("knob(4)", 3, "count(1)", 96, "value(95, 3)", 3, "place(3, 3, 0)", 3, "place(3, 4, 0)", -1000);
        DUE.by("each with a PLACE (a whole from -100 to 100)");
        range("place(1, 1, #)", -100, 50, 100, 50, -1000);
        new Run(DUE, RICH).is("place(1, 1, -100)", 50, "place(1, 1, 100)", -100, "place(1, 1, 0)", 100);
        DUE.by("A VALUE's PLACE becomes p: what it was. BAD answers -1000.");
        range("place(#, 1, 7)", 0, 9, 2, 1, -1000);
        range("place(0, #, 7)", 0, 0, 1, 9, -1000);
        range("place(1, #, 7)", 0, 0, 2, 2, -1000);
        range("place(2, #, 7)", 0, 0, 3, 3, -1000);
    }

    private static void steepness() {
        DUE.by("STEEPNESS (0 to 100; 0 at first)");
        range("steep(1, #)", 0, 16, 100, 16, -1);
        new Run(DUE, RICH).is("steep(1, 0)", 16, "steep(1, 100)", 0, "steep(1, 1)", 100);
        DUE.by("A KNOB's STEEPNESS: what it was. BAD.");
        range("steep(#, 7)", 0, 2, 2, 30, -1);
    }

    private static void rules() {
        DUE.by("A RULE (need = false: a BAN): how many there are. BAD; FULL.");
        for (String need : new String[] {"false", "true"}) {
            String rule = "rule(" + need + ", ";
            range(rule + "#, 0, 1, 0)", 0, 3, 2, 3, -1);
            range(rule + "0, #, 1, 0)", 0, 3, 1, 3, -1);
            range(rule + "1, #, 0, 0)", 0, 3, 2, 3, -1);
            range(rule + "2, #, 0, 0)", 0, 3, 3, 3, -1);
            range(rule + "1, 0, #, 0)", 0, 3, 2, 3, -1);
            range(rule + "1, 0, 0, #)", 0, 3, 1, 3, -1);
            range(rule + "0, 0, 1, #)", 0, 3, 2, 3, -1);
            range(rule + "0, 0, 2, #)", 0, 3, 3, 3, -1);
        }
        DUE.by("a is not b");
        for (int knob = 0; knob < 3; knob++) {
            Run.refused(DUE, RICH, with("rule(false, #, 0, #, 1)", knob), -1);
            Run.refused(DUE, RICH, with("rule(true, #, 1, #, 1)", knob), -1);
        }
    }

    private static void singleEffects() {
        DUE.by("single ones (KNOB a at v), joint ones (a at v and b at w, a below b); each number from -1000 to 1000 (0 at first)");
        range("effect(0, 1, -1, 0, #)", -1000, 5, 1000, 5, -10000);
        new Run(DUE, RICH).is("effect(0, 1, -1, 0, -1000)", 5, "worth(1)", -988, "effect(0, 1, -1, 0, 1000)", -1000,
            "worth(1)", 1012, "effect(0, 1, -1, 0, 0)", 1000);
        range("effect(0, 1, 2, 3, #)", -1000, 7, 1000, 7, -10000);
        new Run(DUE, RICH).is("effect(0, 1, 2, 3, -1000)", 7, "worth(19)", -1013, "effect(0, 1, 2, 3, 1000)", -1000,
            "worth(19)", 987, "effect(0, 1, 2, 3, 0)", 1000);
        DUE.by("The EFFECT of KNOB a at v (b = -1; w is not looked at)");
        range("effect(#, 1, -1, 0, 9)", 0, 5, 2, 0, -10000);
        range("effect(0, #, -1, 0, 9)", 0, 0, 1, 5, -10000);
        range("effect(1, #, -1, 0, 9)", 0, 0, 2, 20, -10000);
        range("effect(2, #, -1, 0, 9)", 0, 0, 3, -30, -10000);
        for (int w : new int[] {Integer.MIN_VALUE, -1, 0, 4, Integer.MAX_VALUE}) {
            new Run(DUE, RICH).is(with("effect(1, 2, -1, #, 9)", w), 20, "effect(1, 2, -1, 0, 0)", 9);
        }
    }

    private static void jointEffects() {
        DUE.by("or of that and b at w, becomes e: what it was. BAD (a not below b, too) answers -10000.");
        range("effect(#, 1, 2, 3, 9)", 0, 7, 1, 0, -10000);
        range("effect(0, #, 2, 3, 9)", 0, 0, 1, 7, -10000);
        range("effect(1, #, 2, 3, 9)", 0, 0, 2, 12, -10000);
        range("effect(0, 1, #, 2, 9)", 1, 0, 2, 0, -10000);
        range("effect(0, 1, 1, #, 9)", 0, 0, 2, 0, -10000);
        range("effect(0, 1, 2, #, 9)", 0, 0, 3, 7, -10000);
        // -1 of b is no number beyond, but -2 is; and a knob is not below itself or one ahead of it.
        Run.refused(DUE, RICH, "effect(0, 1, -2, 0, 9)", -10000);
        Run.refused(DUE, RICH, "effect(1, 1, 1, 2, 9)", -10000);
        Run.refused(DUE, RICH, "effect(2, 3, 0, 1, 9)", -10000);
        Run.refused(DUE, RICH, "effect(2, 3, 1, 2, 9)", -10000);
    }

    private static void base() {
        DUE.by("The BASE (-1000 to 1000): what it was. BAD answers -10000.");
        range("base(#)", -1000, 12, 1000, 12, -10000);
        new Run(DUE, RICH).is("base(-1000)", 12, "worth(0)", -1000, "base(1000)", -1000, "worth(0)", 1000, "base(0)", 1000);
    }

    private static void noise() {
        DUE.by("z being the NOISE (0 to 50)");
        range("noise(#)", 0, 2, 50, 2, -1);
        new Run(DUE, RICH).is("noise(0)", 2, "count(5)", 0, "noise(50)", 0, "count(5)", 50, "noise(1)", 50);
    }

    private static void seed() {
        DUE.by("The SEED (0 to 1073741823): 0. BAD.");
        range("seed(#)", 0, 0, 1073741823, 0, -1);
    }

    private static void settings() {
        DUE.by("The NUMBER of a SETTING with a KNOB at another VALUE. BAD.");
        range("with(#, 1, 1)", 0, 2, 23, 21, -1);
        range("with(23, #, 0)", 0, 22, 2, 5, -1);
        range("with(23, 0, #)", 0, 22, 1, 23, -1);
        range("with(23, 1, #)", 0, 19, 2, 23, -1);
        range("with(23, 2, #)", 0, 5, 3, 23, -1);
        DUE.by("The VALUE of a KNOB in a SETTING. BAD.");
        range("value(#, 2)", 0, 0, 23, 3, -1);
        range("value(23, #)", 0, 1, 2, 3, -1);
        DUE.by("1: a SETTING is ALLOWED; 0. BAD.");
        range("allowed(#)", 0, 1, 23, 1, -1);
        DUE.by("WORTH of a SETTING. BAD answers -100000.");
        range("worth(#)", 0, 12, 23, 26, -100000);
    }

    private static void best() {
        DUE.by("The greatest WORTH of all ALLOWED ones (best = 0), the least NUMBER with it (1).");
        range("best(#)", 0, 37, 1, 5, -100001);
    }

    private static void trials() {
        DUE.by("A TRIAL: how many there are. BAD; NO: it is not ALLOWED; FULL.");
        range("trial(#)", 0, 27, 23, 27, -1);
        DUE.by("What TRIAL i READ (what = 0), of which SETTING (1). BAD answers -100000.");
        range("read(#, 0)", 0, 10, 25, 27, -100000);
        range("read(#, 1)", 0, 0, 25, 23, -100000);
        range("read(25, #)", 0, 27, 1, 23, -100000);
    }

    private static void bounds() {
        DUE.by("FLOOR (what = 0), ROOF (1) of a SETTING. BAD answers -10000000.");
        range("bound(#, 0)", 0, 11, 23, 25, -10000000);
        range("bound(#, 1)", 0, 12, 23, 26, -10000000);
        range("bound(23, #)", 0, 25, 1, 26, -10000000);
        DUE.by("How many are LEFT (what = 0), NEXT (1; NONE: none is LEFT), 1 if THE TOLD SMOOTHNESS is TRUE, else 0 (2). BAD.");
        range("left(#)", 0, 3, 2, 1, -1);
        new Run(DUE, RICH).is("left(1)", 5);
    }

    private static void turns() {
        DUE.by("A SEARCH with turns (1 to 30): how many TRIALS it made");
        // 5, 11 and 17 are left, with roofs alike; by noise each may be tried again and again.
        range("search(#)", 1, 1, 30, 30, -1);
        new Run(DUE, RICH).is("search(1)", 1, "count(3)", 27);
        new Run(DUE, RICH).is("search(30)", 30, "count(3)", 56);
    }

    private static void pairs() {
        DUE.by("THE PAIRS of KNOB a for v, w: how many (what = 0), the sum (1). BAD (v is w, too) answers -10000000.");
        range("pairs(#, 0, 1, 0)", 0, 12, 2, 6, -10000000);
        // A number that is w's is beyond v's: of two values but one is there for v.
        range("pairs(0, #, 1, 0)", 0, 12, 0, 12, -10000000);
        range("pairs(0, #, 0, 0)", 1, 12, 1, 12, -10000000);
        range("pairs(0, 0, #, 1)", 1, 81, 1, 81, -10000000);
        range("pairs(0, 1, #, 1)", 0, -81, 0, -81, -10000000);
        range("pairs(1, #, 1, 1)", 0, 0, 2, -184, -10000000);
        range("pairs(1, 1, #, 1)", 0, 0, 2, 184, -10000000);
        range("pairs(2, #, 0, 1)", 1, 0, 3, 135, -10000000);
        range("pairs(2, 0, #, 1)", 1, 0, 3, -135, -10000000);
        range("pairs(2, #, 3, 1)", 0, -135, 2, -135, -10000000);
        range("pairs(0, 0, 1, #)", 0, 12, 1, 81, -10000000);
        for (String call : new String[] {"pairs(1, #, #, 0)", "pairs(1, #, #, 1)"}) {
            for (int v = 0; v < 3; v++) {
                Run.refused(DUE, RICH, with(call, v), -10000000);
            }
        }
    }

    private static void excess() {
        DUE.by("EXCESS. NO (not all four were tried) answers -10000002, BAD (a not below b, v is v', w is w', too) -10000001.");
        for (Four f : FOURS) {
            range("excess(" + f.numbers + ")", f.least, f.atLeast, f.greatest, f.atGreatest, -10000001);
        }
        for (String alike : NOT_FOUR) {
            Run.refused(DUE, RICH, "excess(" + alike + ")", -10000001);
        }
    }

    private static void joint() {
        DUE.by("1: that is JOINT; 0. BAD; NO.");
        for (Four f : FOURS) {
            range("joint(" + f.numbers + ")", f.least, isJoint(f.atLeast), f.greatest, isJoint(f.atGreatest), -1);
        }
        for (String alike : NOT_FOUR) {
            Run.refused(DUE, RICH, "joint(" + alike + ")", -1);
        }
    }

    /** With the noise at 2 an excess of 8 is not yet joint. */
    private static int isJoint(int excess) {
        return Math.abs(excess) > 8 ? 1 : 0;
    }

    private static void odds() {
        DUE.by("how many ways count (what = 0), all (1). BAD (x is y, too); NO: one was not tried.");
        // 0 read 10 and 13, 1 read 15, 22 read 12, 23 read 24 and 27.
        range("odds(#, 1, 0)", 0, 1, 23, 3, -1);
        range("odds(1, #, 0)", 0, 3, 23, 1, -1);
        range("odds(0, #, 1)", 1, 3, 23, 6, -1);
        range("odds(#, 23, 1)", 0, 6, 22, 3, -1);
        range("odds(0, 1, #)", 0, 1, 1, 3, -1);
        for (int x : new int[] {0, 11, 23}) {
            Run.refused(DUE, RICH, with("odds(#, #, 0)", x), -1);
            Run.refused(DUE, RICH, with("odds(#, #, 1)", x), -1);
        }
    }

    private static void safe() {
        DUE.by("1: THE ODDS are at most a by b (a 0 to 1000, b 1 to 1000): a safe step from x to y; 0. BAD; NO likewise.");
        range("safe(#, 1, 1, 2)", 0, 1, 23, 0, -1);
        range("safe(1, #, 1, 2)", 0, 0, 23, 1, -1);
        range("safe(0, #, 1, 4)", 1, 0, 23, 1, -1);
        range("safe(#, 23, 1, 4)", 0, 1, 22, 0, -1);
        range("safe(0, 1, #, 1)", 0, 0, 1000, 1, -1);
        range("safe(0, 1, #, 1000)", 0, 0, 1000, 1, -1);
        range("safe(0, 1, 1, #)", 1, 1, 1000, 0, -1);
        range("safe(0, 1, 1000, #)", 1, 1, 1000, 1, -1);
        for (int x : new int[] {0, 11, 23}) {
            Run.refused(DUE, RICH, with("safe(#, #, 1, 1)", x), -1);
        }
    }

    private static void back() {
        DUE.by("What x comes to, PUT BACK towards y. BAD.");
        range("back(#, 0)", 0, 0, 23, 23, -1);
        range("back(0, #)", 0, 0, 23, 0, -1);
        range("back(23, #)", 0, 23, 23, 23, -1);
    }

    private static void count() {
        DUE.by("How many: 0 KNOBS, 1 SETTINGS, 2 RULES, 3 TRIALS, 4 SETTINGS that were tried, 5 the NOISE. BAD.");
        range("count(#)", 0, 3, 5, 2, -1);
        new Run(DUE, RICH).is("count(1)", 24, "count(2)", 2, "count(3)", 26, "count(4)", 24);
    }
}
