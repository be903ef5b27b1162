/** What stays and what goes: with a knob more, by what is told later, and which trial is the first. */
public final class StaysTest {
    private static final Due DUE = new Due("StaysTest");

    private static final String TOLD = "knob(2); knob(3); base(7); effect(0, 1, -1, 0, 20); effect(0, 1, 1, 2, 300); "
        + "rule(false, 0, 0, 1, 1); rule(true, 1, 2, 0, 1); noise(4); steep(1, 9); place(1, 2, 30)";

    public static void main(String[] args) {
        rulesStay();
        effectsStay();
        trialsGo();
        allElseStays();
        rulesToldLater();
        effectsToldLater();
        baseToldLater();
        seedToldLater();
        noiseOfBounds();
        noiseOfLeft();
        noiseOfSearch();
        noiseOfJoint();
        firstTrialOfPairs();
        firstTrialOfExcess();
        firstTrialAfterForget();
        allTrialsOfBoundsAndOdds();
        forgetLeavesTheRest();
        DUE.end();
    }

    private static Run run(String before) {
        return new Run(DUE, before);
    }

    private static void rulesStay() {
        DUE.by("When a KNOB comes, RULES and EFFECTS stay, TRIALS go.");
        int[] allowed = {1, 1, 0, 1, 0, 1};
        for (int values = 2; values <= 4; values++) {
            Run x = run(TOLD);
            x.is("book()", 4, "knob(" + values + ")", 2, "count(2)", 2, "book()", 4 * values);
            for (int s = 0; s < 6 * values; s++) {
                x.is("allowed(" + s + ")", allowed[s % 6]);
            }
            // The latest is the latest still, and there is room for ten more.
            x.is("noRule()", 1, "allowed(4)", 1, "allowed(2)", 0, "rule(false, 2, 1, 0, 0)", 2);
            x.does("10 x rule(false, 2, 1, 0, 0)");
            x.is("rule(false, 2, 1, 0, 0)", -3);
        }
    }

    private static void effectsStay() {
        DUE.by("When a KNOB comes, RULES and EFFECTS stay, TRIALS go.");
        int[] worths = {7, 27, 7, 27, 7, 327};
        Run x = run(TOLD + "; knob(4)");
        for (int s = 0; s < 24; s++) {
            x.is("worth(" + s + ")", worths[s % 6]);
        }
        x.is("effect(2, 3, -1, 0, 5)", 0, "effect(1, 2, 2, 3, 50)", 0, "worth(23)", 382, "worth(17)", 327,
            "effect(0, 1, -1, 0, 0)", 20, "effect(0, 1, 1, 2, 0)", 300, "base(0)", 7, "worth(23)", 55);
    }

    private static void trialsGo() {
        DUE.by("When a KNOB comes, RULES and EFFECTS stay, TRIALS go.");
        run(TOLD + "; trial(0); trial(1); trial(1)").is("count(3)", 3, "count(4)", 2, "odds(0, 1, 1)", 3, "knob(2)", 2,
            "count(3)", 0, "count(4)", 0, "read(0, 0)", -100000, "bound(0, 0)", -1000000, "bound(0, 1)", 1000000,
            "odds(0, 1, 1)", -2, "pairs(0, 0, 1, 0)", 0, "forget()", 0, "trial(6)", 1, "read(0, 1)", 6);
        // The first knob of all makes them go, too.
        run("trial(0); trial(0)").is("count(3)", 2, "knob(2)", 0, "count(3)", 0, "trial(1)", 1);
    }

    private static void allElseStays() {
        DUE.by("A KNOB with so many VALUES, PLACES 0, 1, ..: its number.");
        // Seed 5 becomes 345350, 230659027, 280893180: by 64, cut, modulo 9, less 4: 1, 2, 2.
        run(TOLD + "; seed(5); trial(0); trial(0)").is("read(0, 0)", 8, "read(1, 0)", 9, "knob(3)", 2, "count(5)", 4,
            "trial(0)", 1, "read(0, 0)", 9, "steep(1, 0)", 9, "steep(0, 0)", 0, "steep(2, 0)", 0, "place(1, 2, 0)", 30,
            "place(1, 1, 0)", 1, "place(0, 1, 0)", 1, "place(2, 0, 9)", 0, "place(2, 1, 9)", 1, "place(2, 2, 9)", 2);
    }

    private static void rulesToldLater() {
        DUE.by("(RULES, EFFECTS, the BASE told later change no TRIAL that was read");
        // 0, 1, 2, 3 read 0, 5, 3, 8; then 3 is banned: what it read counts on.
        String tried = "knob(2); knob(2); steep(0, 5); steep(1, 3); effect(0, 1, -1, 0, 5); effect(1, 1, -1, 0, 3); "
            + "trial(0); trial(1); trial(2); trial(3)";
        run(tried).is("rule(false, 0, 1, 1, 1)", 1, "count(3)", 4, "count(4)", 4, "read(3, 0)", 8, "read(3, 1)", 3,
            "bound(3, 0)", 8, "bound(1, 0)", 5, "pairs(0, 0, 1, 0)", 2, "pairs(0, 0, 1, 1)", 10,
            "excess(0, 0, 0, 1, 1, 0, 1)", 0, "odds(0, 3, 0)", 1, "left(0)", 1, "left(1)", 1, "trial(3)", -2,
            "noRule()", 0, "left(1)", 3, "trial(3)", 5);
        run(tried + "; rule(true, 0, 0, 1, 1)").is("count(3)", 4, "read(0, 0)", 0, "pairs(1, 0, 1, 1)", 6, "trial(0)", -2);
        // A banned one's reading bounds what is allowed.
        run("knob(2); knob(2); base(9); trial(3); rule(false, 0, 1, 1, 1)").is("bound(0, 0)", 9, "bound(0, 1)", 9, "left(0)", 3);
    }

    private static void effectsToldLater() {
        DUE.by("(RULES, EFFECTS, the BASE told later change no TRIAL that was read");
        String tried = "knob(2); knob(2); trial(3); trial(1)";
        run(tried).is("effect(0, 1, -1, 0, 5)", 0, "effect(0, 1, 1, 1, 7)", 0, "worth(3)", 12, "read(0, 0)", 0, "read(1, 0)", 0,
            "bound(3, 0)", 0, "bound(3, 1)", 0, "pairs(1, 0, 1, 1)", 0, "trial(3)", 3, "read(2, 0)", 12, "read(0, 0)", 0);
    }

    private static void baseToldLater() {
        DUE.by("(RULES, EFFECTS, the BASE told later change no TRIAL that was read");
        run("knob(2); base(4); trial(0); trial(1)").is("base(-9)", 4, "worth(0)", -9, "read(0, 0)", 4, "read(1, 0)", 4,
            "bound(0, 0)", 4, "left(0)", 2, "trial(0)", 3, "read(2, 0)", -9, "read(0, 0)", 4, "pairs(0, 0, 1, 1)", 0);
    }

    private static void seedToldLater() {
        DUE.by("The SEED (0 to 1073741823): 0. BAD.");
        run("noise(50); trial(0)").is("seed(0)", 0, "read(0, 0)", 19, "trial(0)", 2, "read(0, 0)", 19, "read(1, 0)", -50);
    }

    private static void noiseOfBounds() {
        DUE.by("NOISE counts as it is when it is asked.)");
        // What was read stays; how far off it may be is by the noise that is told now.
        run("knob(2); steep(0, 10); base(100); trial(0)").is("bound(0, 0)", 100, "bound(1, 1)", 110, "noise(50)", 0,
            "read(0, 0)", 100, "bound(0, 0)", 50, "bound(0, 1)", 150, "bound(1, 0)", 40, "bound(1, 1)", 160,
            "noise(1)", 50, "bound(1, 0)", 89, "bound(1, 1)", 111, "noise(0)", 1, "bound(1, 0)", 90, "bound(1, 1)", 110);
        run("knob(2); base(100); noise(50); trial(0)").is("read(0, 0)", 119, "noise(0)", 50, "read(0, 0)", 119,
            "bound(0, 0)", 119, "bound(0, 1)", 119, "count(5)", 0);
    }

    private static void noiseOfLeft() {
        DUE.by("NOISE counts as it is when it is asked.)");
        // 0, 1, 2 read 0, 10, 16 and are 20 off, a step: roofs and floors differ by the noise alone.
        run("knob(3); steep(0, 20); effect(0, 1, -1, 0, 10); effect(0, 2, -1, 0, 16); trial(0); trial(1); trial(2)").is(
            "left(0)", 1, "left(1)", 2, "noise(2)", 0, "left(0)", 1, "noise(3)", 2, "left(0)", 2, "noise(7)", 3, "left(0)", 2,
            "noise(8)", 7, "left(0)", 3, "left(1)", 2, "noise(0)", 8, "left(0)", 1);
    }

    private static void noiseOfSearch() {
        DUE.by("if NEXT was tried already with the NOISE 0");
        run("knob(2); trial(0)").is("left(0)", 2, "left(1)", 0, "search(3)", 0, "noise(5)", 0, "search(3)", 3, "read(3, 1)", 0);
        run("knob(2); noise(5); trial(0)").is("left(0)", 2, "left(1)", 0, "noise(0)", 5, "search(3)", 0, "count(3)", 1);
    }

    private static void noiseOfJoint() {
        DUE.by("It is JOINT, if that is above 4 z or below - 4 z.");
        String four = "knob(2); knob(2); effect(0, 1, 1, 1, 200); trial(0); trial(1); trial(2); trial(3)";
        run(four).is("joint(0, 0, 0, 1, 1, 0, 1)", 1, "noise(49)", 0, "joint(0, 0, 0, 1, 1, 0, 1)", 1,
            "joint(0, 0, 1, 0, 1, 0, 1)", 1, "noise(50)", 49, "excess(0, 0, 0, 1, 1, 0, 1)", 200,
            "joint(0, 0, 0, 1, 1, 0, 1)", 0, "joint(0, 0, 1, 0, 1, 0, 1)", 0);
        run(four.replace("200", "201")).is("noise(50)", 0, "joint(0, 0, 0, 1, 1, 0, 1)", 1, "joint(0, 0, 1, 0, 1, 0, 1)", 1);
        run(four.replace("200", "0")).is("joint(0, 0, 0, 1, 1, 0, 1)", 0);
        run(four.replace("200", "1")).is("joint(0, 0, 0, 1, 1, 0, 1)", 1, "joint(0, 0, 1, 0, 1, 0, 1)", 1);
    }

    private static void firstTrialOfPairs() {
        DUE.by("On what was tried a SETTING is worth what its first TRIAL READS.");
        // 0 and 1 read 1 and 20 at first, whatever they read after that, and are one pair however often.
        Run x = run("knob(2); base(1); trial(0); base(20); trial(1); base(300); trial(0); base(400); trial(1); trial(1)");
        x.is("pairs(0, 0, 1, 0)", 1, "pairs(0, 0, 1, 1)", 19, "pairs(0, 1, 0, 0)", 1, "pairs(0, 1, 0, 1)", -19,
            "count(3)", 5, "count(4)", 2);
        // The order of the two does not matter.
        run("knob(2); base(20); trial(1); base(400); trial(1); base(1); trial(0); base(300); trial(0)").is(
            "pairs(0, 0, 1, 0)", 1, "pairs(0, 0, 1, 1)", 19);
    }

    private static void firstTrialOfExcess() {
        DUE.by("On what was tried a SETTING is worth what its first TRIAL READS.");
        String first = "knob(2); knob(2); noise(0); trial(0); base(1); trial(1); base(3); trial(2); base(10); trial(3); ";
        run(first + "base(1000); trial(3); trial(1); trial(0); trial(2)").is("excess(0, 0, 0, 1, 1, 0, 1)", 10 - 1 - 3,
            "joint(0, 0, 0, 1, 1, 0, 1)", 1, "noise(1)", 0, "joint(0, 0, 0, 1, 1, 0, 1)", 1, "noise(2)", 1,
            "joint(0, 0, 0, 1, 1, 0, 1)", 0);
    }

    private static void firstTrialAfterForget() {
        DUE.by("On what was tried a SETTING is worth what its first TRIAL READS.");
        run("knob(2); trial(0); trial(1); base(50); forget(); trial(1); base(60); trial(0); trial(1)").is(
            "pairs(0, 0, 1, 1)", -10, "pairs(0, 0, 1, 0)", 1);
    }

    private static void allTrialsOfBoundsAndOdds() {
        DUE.by("the greatest, the least of these by all TRIALS");
        run("knob(2); steep(0, 9); trial(0); base(5); trial(0); base(2); trial(0)").is("bound(0, 0)", 5, "bound(0, 1)", 0,
            "bound(1, 0)", -4, "bound(1, 1)", 9);
        DUE.by("of all ways to call as many of their READINGS together (TRIALS of both) y's as y has");
        run("knob(2); trial(0); base(5); trial(0); base(2); trial(1)").is("odds(0, 1, 0)", 2, "odds(0, 1, 1)", 3,
            "odds(1, 0, 0)", 2, "odds(1, 0, 1)", 3);
    }

    private static void forgetLeavesTheRest() {
        DUE.by("All TRIALS go: how many there were.");
        // But for the seed, which is told again, all is as if nothing had been tried.
        Run x = run(TOLD + "; seed(9); trial(0); trial(1); trial(1); forget(); seed(9)");
        DUE.same("after forget", x.state(), run(TOLD + "; seed(9)").state());
        // The seed goes on: 1 becomes 69074, 475904815 (39 by noise 50).
        run("noise(50); trial(0)").is("forget()", 1, "trial(0)", 1, "read(0, 0)", 39);
    }
}
