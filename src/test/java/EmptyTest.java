/** Empty: no knobs, no rules, no trials, none allowed, none left, one or more that were not tried. */
public final class EmptyTest {
    private static final Due DUE = new Due("EmptyTest");

    /** Knob 0 can be at neither value: each needs knob 1 at both of its own. */
    private static final String NONE_ALLOWED = "rule(true, 0, 0, 1, 0); rule(true, 0, 0, 1, 1); "
        + "rule(true, 0, 1, 1, 0); rule(true, 0, 1, 1, 1)";

    public static void main(String[] args) {
        newObject();
        atFirst();
        noKnobs();
        noSuchKnobs();
        noRules();
        noTrials();
        noTrialsAnyMore();
        noneAllowed();
        noneAllowedButTried();
        noneLeft();
        searchToNoneLeft();
        noneLeftForTheNoise();
        notTried();
        notAllFourTried();
        DUE.end();
    }

    private static Run run(String before) {
        return new Run(DUE, before);
    }

    private static void newObject() {
        DUE.by("No KNOBS, RULES, TRIALS; NOISE 0.");
        run("").is("count(0)", 0, "count(1)", 1, "count(2)", 0, "count(3)", 0, "count(4)", 0, "count(5)", 0,
            "noise(50)", 0);
    }

    private static void atFirst() {
        DUE.by("a BASE (0 at first)");
        run("").is("base(1)", 0);
        DUE.by("each number from -1000 to 1000 (0 at first)");
        run("knob(2); knob(2)").is("worth(3)", 0, "effect(0, 1, -1, 0, 1)", 0, "effect(0, 1, 1, 1, 1)", 0);
        DUE.by("STEEPNESS (0 to 100; 0 at first)");
        run("knob(4); trial(0)").is("bound(3, 1)", 0, "steep(0, 1)", 0);
        DUE.by("SEED (1 at first)");
        run("noise(50); trial(0)").is("read(0, 0)", 19);
        run("noise(50); seed(1); trial(0)").is("read(0, 0)", 19);
        DUE.by("A KNOB with so many VALUES, PLACES 0, 1, ..: its number.");
        run("knob(4); knob(2)").is("place(0, 0, 9)", 0, "place(0, 1, 9)", 1, "place(0, 2, 9)", 2, "place(0, 3, 9)", 3,
            "place(1, 0, 9)", 0, "place(1, 1, 9)", 1);
    }

    private static void noKnobs() {
        DUE.by("With no KNOBS there is one SETTING, 0.");
        run("base(7)").is("count(1)", 1, "allowed(0)", 1, "book()", 1, "worth(0)", 7, "best(0)", 7, "best(1)", 0,
            "left(0)", 1, "left(1)", 0, "left(2)", 1, "back(0, 0)", 0, "bound(0, 0)", -1000000, "bound(0, 1)", 1000000,
            "search(30)", 0, "trial(0)", 1, "read(0, 0)", 7, "read(0, 1)", 0, "bound(0, 0)", 7, "bound(0, 1)", 7,
            "left(0)", 1, "left(1)", 0, "search(30)", 0, "count(4)", 1);
        for (int x : new int[] {-1, 1}) {
            run("").is("allowed(" + x + ")", -1, "worth(" + x + ")", -100000, "trial(" + x + ")", -1,
                "bound(" + x + ", 0)", -10000000, "back(" + x + ", 0)", -1, "back(0, " + x + ")", -1,
                "odds(0, " + x + ", 0)", -1, "safe(" + x + ", 0, 1, 1)", -1, "with(" + x + ", 0, 0)", -1);
        }
        run("trial(0)").is("odds(0, 0, 0)", -1, "safe(0, 0, 1, 1)", -1);
    }

    private static void noSuchKnobs() {
        DUE.by("there is no such thing");
        run("").is("place(0, 0, 0)", -1000, "steep(0, 0)", -1, "rule(false, 0, 0, 1, 0)", -1,
            "effect(0, 0, -1, 0, 0)", -10000, "effect(0, 0, 1, 0, 0)", -10000, "with(0, 0, 0)", -1, "value(0, 0)", -1,
            "pairs(0, 0, 1, 0)", -10000000, "excess(0, 0, 0, 1, 1, 0, 1)", -10000001, "joint(0, 0, 0, 1, 1, 0, 1)", -1);
        // Of one knob there is no second for a rule, a joint effect or an excess.
        run("knob(2); trial(0); trial(1)").is("rule(false, 0, 0, 1, 0)", -1, "rule(true, 1, 0, 0, 0)", -1,
            "effect(0, 0, 1, 0, 5)", -10000, "excess(0, 0, 0, 1, 1, 0, 1)", -10000001,
            "joint(0, 0, 0, 1, 1, 0, 1)", -1, "pairs(0, 0, 1, 0)", 1);
    }

    private static void noRules() {
        DUE.by("The latest RULE goes: how many are left. NO: there is none.");
        Run.refused(DUE, "", "noRule()", -2);
        Run.refused(DUE, "knob(2); knob(3); trial(5)", "noRule()", -2);
        Run.refused(DUE, "knob(2); knob(3); rule(false, 0, 0, 1, 0); noRule()", "noRule()", -2);
        DUE.by("A SETTING is ALLOWED, if no RULE is against it.");
        Run x = run("knob(2); knob(3)");
        x.is("book()", 6);
        for (int s = 0; s < 6; s++) {
            x.is("allowed(" + s + ")", 1);
        }
    }

    private static void noTrials() {
        DUE.by("the greatest, the least of these by all TRIALS (none: -1000000, 1000000)");
        String twoKnobs = "knob(2); knob(3); steep(0, 100); steep(1, 100); noise(50); base(1000)";
        run(twoKnobs).is("bound(0, 0)", -1000000, "bound(0, 1)", 1000000, "bound(5, 0)", -1000000, "bound(5, 1)", 1000000);
        DUE.by("An ALLOWED SETTING is LEFT, if its ROOF is not below the greatest FLOOR of all ALLOWED ones.");
        run(twoKnobs).is("left(0)", 6, "left(1)", 0);
        run(twoKnobs + "; rule(false, 0, 0, 1, 0); rule(false, 0, 1, 1, 0)").is("left(0)", 4, "left(1)", 2);
        DUE.by("All TRIALS go: how many there were.");
        run(twoKnobs).is("forget()", 0, "forget()", 0);
        DUE.by("What TRIAL i READ (what = 0), of which SETTING (1). BAD answers -100000.");
        run(twoKnobs).is("read(0, 0)", -100000, "read(0, 1)", -100000, "count(3)", 0, "count(4)", 0);
        DUE.by("all two SETTINGS that were tried");
        run(twoKnobs).is("pairs(0, 0, 1, 0)", 0, "pairs(0, 0, 1, 1)", 0, "pairs(1, 2, 0, 0)", 0, "pairs(1, 2, 0, 1)", 0);
        run(twoKnobs + "; trial(0); trial(3)").is("pairs(0, 0, 1, 0)", 0, "pairs(1, 0, 1, 1)", 0);
    }

    private static void noTrialsAnyMore() {
        DUE.by("(none: -1000000, 1000000)");
        String tried = "knob(2); knob(2); effect(0, 1, -1, 0, 5); 2 x trial(0); trial(1); trial(2); trial(3)";
        String[] gone = {"forget()", "knob(2)"};
        for (String call : gone) {
            Run x = run(tried);
            x.is("bound(1, 1)", 0, "left(0)", 0, "pairs(0, 0, 1, 0)", 2);
            x.does(call);
            x.is("count(3)", 0, "count(4)", 0, "bound(1, 0)", -1000000, "bound(1, 1)", 1000000, "left(1)", 0,
                "read(0, 0)", -100000, "pairs(0, 0, 1, 0)", 0, "pairs(0, 0, 1, 1)", 0, "odds(0, 1, 0)", -2,
                "safe(0, 1, 1000, 1)", -2, "excess(0, 0, 0, 1, 1, 0, 1)", -10000002, "joint(0, 0, 0, 1, 1, 0, 1)", -2,
                "left(0)", call.equals("forget()") ? 4 : 8, "forget()", 0);
        }
    }

    private static void noneAllowed() {
        String none = "knob(2); knob(2); base(9); effect(0, 1, -1, 0, 5); " + NONE_ALLOWED;
        DUE.by("NONE: none is ALLOWED; -100000 of the WORTH.");
        run(none).is("book()", 0, "best(0)", -100000, "best(1)", -4);
        // As soon as one is allowed again that is the best, be it worth less than nothing.
        run("knob(2); knob(2); base(9); " + NONE_ALLOWED).is("base(-1000)", 9, "best(0)", -100000, "noRule()", 3,
            "best(0)", -1000, "best(1)", 1);
        DUE.by("BAD; NO: none is ALLOWED.");
        for (int turns : new int[] {1, 30}) {
            Run.refused(DUE, none, "search(" + turns + ")", -2);
        }
        DUE.by("NO: it is not ALLOWED");
        for (int s = 0; s < 4; s++) {
            Run.refused(DUE, none, "trial(" + s + ")", -2);
        }
        DUE.by("NEXT (1; NONE: none is LEFT)");
        run(none).is("left(0)", 0, "left(1)", -4);
        DUE.by("if of any two ALLOWED SETTINGS WORTH is at most OFF apart");
        run(none).is("left(2)", 1, "noRule()", 3, "left(2)", 1);
        run("knob(2); knob(2); effect(0, 1, -1, 0, 5)").is("left(2)", 0);
        DUE.by("if with y's VALUE of it the SETTING (as it is by then) is ALLOWED and has the same WORTH, it gets that");
        run(none).is("back(3, 0)", 3, "back(0, 3)", 0);
    }

    private static void noneAllowedButTried() {
        DUE.by("(RULES, EFFECTS, the BASE told later change no TRIAL that was read");
        String none = "knob(2); knob(2); noise(3); trial(0); trial(3); " + NONE_ALLOWED;
        run(none).is("count(3)", 2, "left(0)", 0, "left(1)", -4, "best(1)", -4, "odds(0, 3, 1)", 2);
        Run.refused(DUE, none, "search(30)", -2);
        Run.refused(DUE, none, "trial(0)", -2);
    }

    private static void noneLeft() {
        DUE.by("(Where READINGS can not be by what is told none may be LEFT: there is no NEXT, a SEARCH ends.)");
        // 0 reads 0 and 1 reads 5 where they are told to be alike.
        String none = "knob(2); effect(0, 1, -1, 0, 5); trial(0); trial(1)";
        run(none).is("book()", 2, "left(0)", 0, "left(1)", -4, "best(1)", 1);
        Run.refused(DUE, none, "search(1)", 0);
        Run.refused(DUE, none, "search(30)", 0);
        // Noise or steepness that lets the readings be brings both back.
        run(none).is("noise(2)", 0, "left(0)", 0, "noise(3)", 2, "left(0)", 2, "left(1)", 0);
        run(none).is("steep(0, 4)", 0, "left(0)", 0, "steep(0, 5)", 4, "left(0)", 1, "left(1)", 1);
    }

    private static void searchToNoneLeft() {
        DUE.by("there is no NEXT, a SEARCH ends");
        // Roofs of 0, 1, 2 by 0: 0, 10, 20; then 2 reads 50 and none is left; 1 is never tried.
        Run x = run("knob(3); steep(0, 10); effect(0, 2, -1, 0, 50)");
        x.is("search(30)", 2, "read(0, 1)", 0, "read(1, 1)", 2, "left(0)", 0, "left(1)", -4, "count(4)", 2, "search(30)", 0);
    }

    private static void noneLeftForTheNoise() {
        DUE.by("NOISE counts as it is when it is asked");
        // Both read with noise 50 and seed 1: 19 and 39; with the noise told away they can not be alike.
        Run x = run("knob(2); noise(50); trial(0); trial(1)");
        x.is("read(0, 0)", 19, "read(1, 0)", 39, "left(0)", 2, "noise(0)", 50, "left(0)", 0, "left(1)", -4, "search(9)", 0,
            "noise(9)", 0, "left(0)", 0, "noise(10)", 9, "left(0)", 2);
    }

    private static void notTried() {
        DUE.by("NO: one was not tried.");
        String tried = "knob(3); knob(2); trial(1); trial(1); trial(5)";
        for (int what = 0; what <= 1; what++) {
            Run.refused(DUE, tried, "odds(1, 0, " + what + ")", -2);
            Run.refused(DUE, tried, "odds(0, 1, " + what + ")", -2);
            Run.refused(DUE, tried, "odds(0, 2, " + what + ")", -2);
        }
        DUE.by("BAD; NO likewise.");
        Run.refused(DUE, tried, "safe(1, 0, 1000, 1)", -2);
        Run.refused(DUE, tried, "safe(0, 1, 1000, 1)", -2);
        Run.refused(DUE, tried, "safe(0, 2, 0, 1)", -2);
        run(tried).is("odds(1, 5, 1)", 3, "safe(1, 5, 1, 1)", 1);
    }

    private static void notAllFourTried() {
        DUE.by("NO (not all four were tried) answers -10000002");
        // Knobs 0 and 2; the four with knob 1 at 1 are 2, 3, 6, 7.
        String knobs = "knob(2); knob(2); knob(2); trial(0); trial(1); trial(4); trial(5)";
        int[] four = {2, 3, 6, 7};
        for (int missing : four) {
            StringBuilder tried = new StringBuilder(knobs);
            for (int x : four) {
                tried.append(x == missing ? "" : "; trial(" + x + ")");
            }
            Run.refused(DUE, tried.toString(), "excess(2, 0, 0, 1, 2, 0, 1)", -10000002);
            Run.refused(DUE, tried.toString(), "joint(2, 0, 0, 1, 2, 0, 1)", -2);
            run(tried.toString()).is("excess(0, 0, 0, 1, 2, 0, 1)", 0, "joint(0, 0, 0, 1, 2, 0, 1)", 0,
                "trial(" + missing + ")", 8, "excess(2, 0, 0, 1, 2, 0, 1)", 0, "joint(2, 0, 0, 1, 2, 0, 1)", 0);
        }
    }
}
