/**
 * A refused call: each answer for BAD, NO, FULL and NONE that a promise names, which one comes of
 * several, and that nothing changes then: all that the object holds is as without the call.
 */
public final class RefusedTest {
    private static final Due DUE = new Due("RefusedTest");

    private static final String FIVE_TRIED = "knob(3); knob(2); noise(3); base(-20); effect(0, 2, 1, 1, 9); steep(0, 4); "
        + "trial(0); trial(1); trial(3); trial(3); trial(5); rule(false, 0, 2, 1, 0)";
    private static final String NONE_ALLOWED = "knob(2); knob(2); noise(3); trial(3); rule(true, 0, 0, 1, 0); "
        + "rule(true, 0, 0, 1, 1); rule(true, 0, 1, 1, 0); rule(true, 0, 1, 1, 1)";
    private static final String FULL_KNOBS = "6 x knob(2); noise(3); trial(63); trial(0)";
    private static final String FULL_RULES = "knob(2); knob(2); trial(1); 12 x rule(true, 0, 1, 1, 1)";
    private static final String FULL_TRIALS = "knob(2); knob(2); noise(3); rule(false, 0, 1, 1, 1); 60 x trial(2)";
    private static final String FULL_TRIALS_NONE_ALLOWED = "knob(2); knob(2); noise(3); 60 x trial(2); "
        + "rule(false, 0, 1, 1, 1); rule(false, 0, 1, 1, 0); rule(false, 0, 0, 1, 1); rule(false, 0, 0, 1, 0)";

    public static void main(String[] args) {
        constants();
        numbersOfBad();
        numbersOfNo();
        numbersOfFull();
        numbersOfNone();
        badAheadOfFull();
        badAheadOfNo();
        badAheadOfNone();
        noAheadOfFull();
        badFirstOfAll();
        refusalsInARow();
        DUE.end();
    }

    private static void refused(String before, Object... callsAndAnswers) {
        for (int i = 0; i < callsAndAnswers.length; i += 2) {
            Run.refused(DUE, before, (String) callsAndAnswers[i], (Integer) callsAndAnswers[i + 1]);
        }
    }

    private static void constants() {
        DUE.by("public static final int BAD = -1, NO = -2, FULL = -3, NONE = -4;");
        DUE.is("BAD", KnobBench.BAD, -1);
        DUE.is("NO", KnobBench.NO, -2);
        DUE.is("FULL", KnobBench.FULL, -3);
        DUE.is("NONE", KnobBench.NONE, -4);
    }

    private static void numbersOfBad() {
        DUE.by("BAD: a number is none that is told, there is no such thing.");
        refused(FIVE_TRIED, "knob(5)", -1, "steep(2, 1)", -1, "rule(false, 0, 0, 0, 1)", -1, "noise(51)", -1, "seed(-1)", -1,
            "with(6, 0, 0)", -1, "value(0, 2)", -1, "allowed(6)", -1, "trial(6)", -1, "left(3)", -1, "search(0)", -1,
            "joint(0, 1, 0, 1, 0, 0, 1)", -1, "odds(0, 0, 0)", -1, "safe(0, 1, 1, 0)", -1, "back(0, 6)", -1, "count(6)", -1);
        DUE.by("BAD answers -1000.");
        refused(FIVE_TRIED, "place(2, 0, 0)", -1000, "place(0, 3, 0)", -1000, "place(0, 0, 101)", -1000);
        DUE.by("BAD (a not below b, too) answers -10000.");
        refused(FIVE_TRIED, "effect(2, 0, -1, 0, 0)", -10000, "effect(1, 1, 0, 2, 5)", -10000, "effect(0, 2, 1, 1, 1001)", -10000);
        DUE.by("The BASE (-1000 to 1000): what it was. BAD answers -10000.");
        refused(FIVE_TRIED, "base(1001)", -10000, "base(-1001)", -10000);
        DUE.by("WORTH of a SETTING. BAD answers -100000.");
        refused(FIVE_TRIED, "worth(6)", -100000, "worth(-1)", -100000);
        DUE.by("BAD answers -100001.");
        refused(FIVE_TRIED, "best(2)", -100001, "best(-1)", -100001);
        DUE.by("What TRIAL i READ (what = 0), of which SETTING (1). BAD answers -100000.");
        refused(FIVE_TRIED, "read(5, 0)", -100000, "read(-1, 1)", -100000, "read(0, 2)", -100000);
        DUE.by("FLOOR (what = 0), ROOF (1) of a SETTING. BAD answers -10000000.");
        refused(FIVE_TRIED, "bound(6, 0)", -10000000, "bound(0, 2)", -10000000);
        DUE.by("BAD (v is w, too) answers -10000000.");
        refused(FIVE_TRIED, "pairs(2, 0, 1, 0)", -10000000, "pairs(0, 1, 1, 1)", -10000000, "pairs(0, 0, 1, 2)", -10000000);
        DUE.by("BAD (a not below b, v is v', w is w', too) -10000001.");
        refused(FIVE_TRIED, "excess(6, 0, 0, 1, 1, 0, 1)", -10000001, "excess(0, 1, 0, 1, 0, 0, 1)", -10000001,
            "excess(0, 0, 1, 1, 1, 0, 1)", -10000001, "excess(0, 0, 0, 1, 1, 1, 1)", -10000001);
    }

    private static void numbersOfNo() {
        DUE.by("NO: not as things stand.");
        refused("knob(2); knob(2); trial(3)", "noRule()", -2);
        DUE.by("NO: it is not ALLOWED");
        refused(FIVE_TRIED, "trial(2)", -2);
        DUE.by("NO: none is ALLOWED.");
        refused(NONE_ALLOWED, "search(1)", -2, "search(30)", -2);
        DUE.by("NO (not all four were tried) answers -10000002");
        refused(FIVE_TRIED, "excess(0, 0, 0, 1, 1, 0, 1)", -10000002, "excess(5, 0, 1, 2, 1, 0, 1)", -10000002);
        DUE.by("1: that is JOINT; 0. BAD; NO.");
        refused(FIVE_TRIED, "joint(0, 0, 0, 1, 1, 0, 1)", -2, "joint(5, 0, 1, 2, 1, 0, 1)", -2);
        DUE.by("NO: one was not tried.");
        refused(FIVE_TRIED, "odds(0, 2, 0)", -2, "odds(2, 0, 1)", -2, "odds(2, 4, 0)", -2);
        DUE.by("BAD; NO likewise.");
        refused(FIVE_TRIED, "safe(0, 2, 1, 1)", -2, "safe(2, 0, 1, 1)", -2, "safe(2, 4, 0, 1)", -2);
    }

    private static void numbersOfFull() {
        DUE.by("FULL: 6, or more than 144 SETTINGS.");
        refused(FULL_KNOBS, "knob(2)", -3, "knob(3)", -3, "knob(4)", -3);
        DUE.by("how many there are. BAD; FULL.");
        refused(FULL_RULES, "rule(false, 0, 0, 1, 0)", -3, "rule(true, 1, 0, 0, 0)", -3);
        DUE.by("BAD; NO: it is not ALLOWED; FULL.");
        refused(FULL_TRIALS, "trial(0)", -3, "trial(1)", -3, "trial(2)", -3);
    }

    private static void numbersOfNone() {
        DUE.by("NONE: none is ALLOWED; -100000 of the WORTH.");
        refused(NONE_ALLOWED, "best(1)", -4, "best(0)", -100000);
        DUE.by("NEXT (1; NONE: none is LEFT)");
        refused(NONE_ALLOWED, "left(1)", -4);
        refused("knob(2); effect(0, 1, -1, 0, 5); trial(0); trial(1)", "left(1)", -4);
    }

    private static void badAheadOfFull() {
        DUE.by("Of several the first; nothing changes then.");
        refused(FULL_KNOBS, "knob(1)", -1, "knob(5)", -1);
        refused("knob(4); knob(4); knob(3); knob(3); trial(143)", "knob(1)", -1, "knob(5)", -1);
        refused(FULL_RULES, "rule(false, 0, 0, 0, 1)", -1, "rule(true, 0, 2, 1, 0)", -1, "rule(false, 2, 0, 1, 0)", -1);
        refused(FULL_TRIALS, "trial(4)", -1, "trial(-1)", -1, "search(0)", -1, "search(31)", -1);
    }

    private static void badAheadOfNo() {
        DUE.by("Of several the first; nothing changes then.");
        refused(NONE_ALLOWED, "trial(4)", -1, "trial(-1)", -1, "search(0)", -1, "search(31)", -1);
        refused(FIVE_TRIED, "odds(2, 2, 0)", -1, "odds(0, 2, 2)", -1, "odds(2, 0, -1)", -1, "odds(2, 6, 0)", -1,
            "odds(-1, 2, 0)", -1, "safe(2, 2, 1, 1)", -1, "safe(0, 2, 1001, 1)", -1, "safe(0, 2, -1, 1)", -1,
            "safe(2, 0, 1, 0)", -1, "safe(2, 0, 1, 1001)", -1, "safe(6, 2, 1, 1)", -1, "safe(2, -1, 1, 1)", -1);
        // 2 and 4 were not tried; of any of these not all four, either.
        String[] bad = {"6, 0, 0, 2, 1, 0, 1", "-1, 0, 0, 2, 1, 0, 1", "0, 1, 0, 1, 0, 0, 2", "0, 0, 2, 2, 1, 0, 1",
            "0, 0, 0, 2, 1, 1, 1", "0, 0, 0, 3, 1, 0, 1", "0, 0, 0, 2, 1, 0, 2", "0, 0, 0, 2, 2, 0, 1"};
        for (String numbers : bad) {
            refused(FIVE_TRIED, "excess(" + numbers + ")", -10000001, "joint(" + numbers + ")", -1);
        }
    }

    private static void badAheadOfNone() {
        DUE.by("Of several the first; nothing changes then.");
        refused(NONE_ALLOWED, "best(2)", -100001, "best(-1)", -100001, "left(3)", -1, "left(-1)", -1);
    }

    private static void noAheadOfFull() {
        DUE.by("BAD; NO: it is not ALLOWED; FULL.");
        refused(FULL_TRIALS, "trial(3)", -2);
        refused(FULL_TRIALS_NONE_ALLOWED, "trial(2)", -2, "trial(0)", -2, "search(1)", -2, "search(30)", -2);
    }

    private static void badFirstOfAll() {
        DUE.by("Of several the first; nothing changes then.");
        refused(FULL_TRIALS_NONE_ALLOWED, "trial(4)", -1, "search(31)", -1, "search(0)", -1);
        // Several numbers may be none that is told at once.
        refused(FIVE_TRIED, "place(9, 9, 999)", -1000, "steep(9, 999)", -1, "rule(true, 9, 9, 9, 9)", -1,
            "effect(9, 9, 9, 9, 9999)", -10000, "with(9, 9, 9)", -1, "value(9, 9)", -1, "read(9, 9)", -100000,
            "bound(9, 9)", -10000000, "pairs(9, 9, 9, 9)", -10000000, "excess(9, 9, 9, 9, 9, 9, 9)", -10000001,
            "joint(9, 9, 9, 9, 9, 9, 9)", -1, "odds(9, 9, 9)", -1, "safe(9, 9, 9999, 0)", -1, "back(9, 9)", -1);
    }

    private static void refusalsInARow() {
        DUE.by("nothing changes then");
        String[] row = {"knob(1)", "place(0, 0, 101)", "steep(0, 101)", "rule(true, 0, 0, 0, 0)", "effect(1, 0, 0, 0, 1)",
            "base(2000)", "noise(-1)", "seed(-1)", "trial(6)", "trial(2)", "search(0)", "search(31)", "odds(0, 2, 0)",
            "excess(0, 0, 0, 2, 1, 0, 1)", "back(6, 0)"};
        Run asked = new Run(DUE, FIVE_TRIED);
        for (String call : row) {
            DUE.holds(call + " is refused", asked.ask(call) < 0);
        }
        DUE.same("after all of them", asked.state(), new Run(DUE, FIVE_TRIED).state());
    }
}
