/** Full: 6 knobs, 144 settings, 12 rules, 60 trials, and the first 8 trials of each of odds. */
public final class FullTest {
    private static final Due DUE = new Due("FullTest");

    private static final String SIX_KNOBS = "6 x knob(2)";
    private static final String ALL_SETTINGS = "knob(3); knob(2); knob(2); knob(3); knob(2); knob(2)";

    public static void main(String[] args) {
        sixKnobs();
        allSettings();
        tooManySettings();
        knobThatIsFullKeepsTrials();
        lastOfEach();
        twelveRules();
        sixtyTrials();
        askedOfSixty();
        searchOfAllSettings();
        fullSearch();
        roomAgain();
        firstEight();
        firstEightOfAllAlike();
        allCalls();
        DUE.end();
    }

    private static Run run(String before) {
        return new Run(DUE, before);
    }

    private static void sixKnobs() {
        DUE.by("6 at most (and 144 SETTINGS)");
        run("5 x knob(2)").is("knob(2)", 5, "count(0)", 6, "count(1)", 64);
        run("5 x knob(2)").is("knob(4)", 5, "count(1)", 128, "value(127, 5)", 3);
        DUE.by("FULL: 6, or more than 144 SETTINGS.");
        for (int values = 2; values <= 4; values++) {
            Run.refused(DUE, SIX_KNOBS, "knob(" + values + ")", -3);
        }
        // 128 would be few enough: six knobs alone are the reason.
        run(SIX_KNOBS).is("knob(2)", -3, "count(0)", 6, "count(1)", 64, "steep(6, 0)", -1);
    }

    private static void allSettings() {
        DUE.by("6 at most (and 144 SETTINGS)");
        run("knob(4); knob(4); knob(3)").is("knob(3)", 3, "count(1)", 144, "allowed(143)", 1, "allowed(144)", -1);
        run("knob(3); knob(2); knob(2); knob(3); knob(2)").is("knob(2)", 5, "count(1)", 144, "count(0)", 6);
        run("knob(4); knob(3); knob(3); knob(2)").is("knob(2)", 4, "count(1)", 144, "count(0)", 5);
    }

    private static void tooManySettings() {
        DUE.by("FULL: 6, or more than 144 SETTINGS.");
        // 162 is the least number above 144 that knobs can make.
        Run.refused(DUE, "knob(3); knob(3); knob(3); knob(3)", "knob(2)", -3);
        Run.refused(DUE, "knob(4); knob(4); knob(3)", "knob(4)", -3);
        Run.refused(DUE, "knob(4); knob(4); knob(4)", "knob(3)", -3);
        Run.refused(DUE, "knob(4); knob(4); knob(4)", "knob(4)", -3);
        Run.refused(DUE, "knob(4); knob(4); knob(3); knob(3)", "knob(2)", -3);
        Run.refused(DUE, "knob(4); knob(4); knob(4); knob(2)", "knob(2)", -3);
        // One that is too much leaves room for one that is not.
        run("knob(4); knob(4); knob(4)").is("knob(4)", -3, "knob(3)", -3, "knob(2)", 3, "count(1)", 128, "value(127, 3)", 1);
    }

    private static void knobThatIsFullKeepsTrials() {
        DUE.by("nothing changes then");
        String tried = "; noise(50); trial(5); trial(5); trial(63)";
        run(SIX_KNOBS + tried).is("knob(2)", -3, "count(3)", 3, "read(2, 1)", 63, "bound(0, 0)", -11);
        Run.refused(DUE, SIX_KNOBS + tried, "knob(2)", -3);
        Run.refused(DUE, ALL_SETTINGS + tried, "knob(2)", -3);
        Run.refused(DUE, "knob(4); knob(4); knob(4)" + tried, "knob(4)", -3);
    }

    private static void lastOfEach() {
        DUE.by("KNOBS 0, 1, .. as they come, 6 at most (and 144 SETTINGS), have 2 to 4 VALUES 0, 1, ..");
        // The last value of the last knob, and that with the last of the one ahead.
        run("5 x knob(2); knob(4)").is("place(5, 3, 100)", 3, "place(5, 3, -100)", 100, "steep(5, 100)", 0,
            "effect(5, 3, -1, 0, 1000)", 0, "effect(4, 1, 5, 3, 1000)", 0, "effect(4, 1, 5, 3, -1000)", 1000,
            "effect(5, 3, -1, 0, 7)", 1000, "worth(127)", -993, "with(0, 5, 3)", 96, "with(127, 5, 0)", 31,
            "rule(true, 5, 3, 4, 1)", 1, "allowed(96)", 0, "allowed(127)", 1, "trial(127)", 1, "read(0, 1)", 127,
            "bound(31, 1)", -993 + 10000, "place(6, 0, 0)", -1000, "effect(5, 0, 6, 0, 0)", -10000, "value(127, 6)", -1);
        run(ALL_SETTINGS).is("effect(5, 1, -1, 0, 9)", 0, "worth(143)", 9, "best(1)", 72, "back(143, 0)", 72,
            "trial(143)", 1, "bound(143, 0)", 9, "trial(71)", 2, "pairs(5, 0, 1, 1)", 9, "odds(71, 143, 1)", 2,
            "odds(71, 144, 1)", -1, "left(0)", 0, "book()", 144, "worth(144)", -100000, "with(144, 0, 0)", -1);
    }

    private static void twelveRules() {
        DUE.by("RULES, 12 at most");
        String eleven = "knob(2); knob(3); rule(true, 0, 0, 1, 1); 10 x rule(false, 0, 1, 1, 2)";
        String twelve = eleven + "; rule(false, 1, 1, 0, 0)";
        run(eleven).is("count(2)", 11, "book()", 3, "rule(false, 1, 1, 0, 0)", 12, "count(2)", 12, "book()", 2);
        Run.refused(DUE, twelve, "rule(false, 0, 0, 1, 0)", -3);
        Run.refused(DUE, twelve, "rule(true, 0, 1, 1, 1)", -3);
        run(twelve).is("rule(false, 0, 1, 1, 0)", -3, "allowed(1)", 1, "noRule()", 11, "rule(false, 0, 1, 1, 0)", 12,
            "allowed(1)", 0, "rule(false, 0, 1, 1, 0)", -3);
        Run x = run(twelve);
        for (int left = 11; left >= 0; left--) {
            x.is("noRule()", left);
        }
        x.is("noRule()", -2, "book()", 6);
    }

    private static void sixtyTrials() {
        DUE.by("TRIALS 0, 1, .. are 60 at most.");
        String sixty = "knob(2); knob(2); noise(50); 59 x trial(1); trial(3)";
        run("knob(2); knob(2); 59 x trial(1)").is("trial(3)", 60, "count(3)", 60, "count(4)", 2, "read(59, 1)", 3,
            "read(60, 1)", -100000);
        for (int s = 0; s < 4; s++) {
            Run.refused(DUE, sixty, "trial(" + s + ")", -3);
        }
        run(sixty).is("forget()", 60, "forget()", 0, "trial(2)", 1, "read(0, 1)", 2, "read(1, 1)", -100000);
        DUE.by("the greatest, the least of these by all TRIALS");
        run("knob(2); 59 x trial(0); base(5)").is("bound(0, 0)", 0, "trial(1)", 60, "bound(0, 0)", 5, "bound(0, 1)", 0);
    }

    private static void askedOfSixty() {
        DUE.by("TRIALS 0, 1, .. are 60 at most.");
        // 57 of setting 0, and the last three are each another one's first.
        String sixty = "knob(2); knob(2); 57 x trial(0); base(1); trial(1); base(2); trial(2); base(9); trial(3)";
        run(sixty).is("count(3)", 60, "count(4)", 4, "pairs(0, 0, 1, 0)", 2, "pairs(0, 0, 1, 1)", 1 + 7, "pairs(1, 0, 1, 1)", 2 + 8,
            "excess(0, 0, 0, 1, 1, 0, 1)", 6, "joint(0, 0, 0, 1, 1, 0, 1)", 1, "odds(0, 3, 1)", 9, "odds(0, 3, 0)", 1,
            "safe(0, 3, 1, 9)", 1, "bound(0, 0)", 9, "bound(0, 1)", 0, "left(0)", 0, "left(1)", -4, "left(2)", 1,
            "read(59, 0)", 9, "read(59, 1)", 3, "back(3, 0)", 0, "search(30)", 0, "knob(2)", 2, "count(3)", 0);
    }

    private static void searchOfAllSettings() {
        DUE.by("A SEARCH tries NEXT, again and again");
        // All are worth 0 and 10 off at least: what was tried has the roof 0, all else a greater one.
        Run x = run(ALL_SETTINGS);
        for (int k = 0; k < 6; k++) {
            x.does("steep(" + k + ", 10)");
        }
        x.is("left(0)", 144, "search(2)", 2, "read(0, 1)", 0, "read(1, 1)", 143, "bound(143, 1)", 0, "left(0)", 144,
            "bound(35, 1)", 20, "search(30)", 30, "count(3)", 32, "count(4)", 32, "search(30)", 28, "count(3)", 60);
    }

    private static void fullSearch() {
        DUE.by("(it ends, too, at 60 TRIALS)");
        String noisy = "knob(2); noise(1); ";
        run(noisy + "29 x trial(0)").is("search(30)", 30, "count(3)", 59, "search(30)", 1, "count(3)", 60, "search(30)", 0);
        run(noisy + "30 x trial(0)").is("search(30)", 30, "count(3)", 60, "search(1)", 0, "trial(0)", -3);
        run(noisy + "31 x trial(0)").is("search(30)", 29, "count(3)", 60);
        run(noisy + "58 x trial(0)").is("search(2)", 2, "count(3)", 60, "search(2)", 0);
        Run.refused(DUE, noisy + "60 x trial(1)", "search(1)", 0);
        Run.refused(DUE, noisy + "60 x trial(1)", "search(30)", 0);
    }

    private static void roomAgain() {
        DUE.by("All TRIALS go: how many there were.");
        run("knob(2); noise(1); 60 x trial(0)").is("trial(0)", -3, "forget()", 60, "trial(0)", 1, "search(30)", 30,
            "search(30)", 29, "trial(0)", -3);
        DUE.by("When a KNOB comes, RULES and EFFECTS stay, TRIALS go.");
        run("knob(2); noise(1); 60 x trial(0)").is("trial(0)", -3, "knob(2)", 1, "trial(3)", 1, "count(3)", 1);
        run("knob(2); knob(2); 12 x rule(false, 0, 1, 1, 1)").is("knob(2)", 2, "rule(false, 0, 0, 2, 0)", -3, "count(2)", 12);
    }

    private static void firstEight() {
        DUE.by("Of each the first 8 TRIALS count.");
        String seven = "knob(2); base(1); 7 x trial(0); base(2); 7 x trial(1)";
        run(seven).is("odds(0, 1, 1)", 3432, "odds(0, 1, 0)", 1);
        // An eighth of x at the top: ranks 6 (seven), 20 (seven, y's), 28; of seven 20s one may be the 28.
        run(seven + "; base(1000); trial(0)").is("odds(0, 1, 1)", 6435, "odds(0, 1, 0)", 1 + 7);
        // An eighth of y at the bottom: ranks 0 (y's), 8 (seven), 22 (seven, y's); an 8 may be in place of the 0.
        run(seven + "; base(0); trial(1)").is("odds(0, 1, 1)", 6435, "odds(0, 1, 0)", 1 + 7);
        // A ninth of either does not count, however far off it reads.
        String eight = "knob(2); base(1); 8 x trial(0); base(2); 8 x trial(1)";
        run(eight).is("odds(0, 1, 1)", 12870, "odds(0, 1, 0)", 1, "odds(1, 0, 0)", 12870, "safe(0, 1, 1, 1000)", 1);
        run(eight + "; base(1000); trial(0)").is("odds(0, 1, 1)", 12870, "odds(0, 1, 0)", 1, "odds(1, 0, 0)", 12870);
        run(eight + "; base(0); trial(1)").is("odds(0, 1, 1)", 12870, "odds(0, 1, 0)", 1, "safe(0, 1, 1, 1000)", 1);
        run(eight + "; base(0); 20 x trial(1); base(1000); 24 x trial(0)").is("count(3)", 60, "odds(0, 1, 1)", 12870,
            "odds(0, 1, 0)", 1, "odds(1, 0, 1)", 12870, "odds(1, 0, 0)", 12870);
        // Of one that has less than eight all count, whatever the other has.
        run("knob(2); base(1); 30 x trial(0); base(2); trial(1)").is("odds(0, 1, 1)", 9, "odds(0, 1, 0)", 1, "odds(1, 0, 1)", 9);
    }

    private static void firstEightOfAllAlike() {
        DUE.by("those count in which the sum of ranks of y's is at least what it is");
        run("knob(2); 30 x trial(0); 30 x trial(1)").is("odds(0, 1, 0)", 12870, "odds(0, 1, 1)", 12870,
            "odds(1, 0, 0)", 12870, "safe(0, 1, 1000, 1000)", 1, "safe(0, 1, 999, 1000)", 0);
    }

    private static void allCalls() {
        DUE.by("An object is used for at most 512 calls after it has been made");
        Run x = run(ALL_SETTINGS + "; noise(50); 60 x trial(143); 442 x book()");
        x.is("left(2)", 1, "book()", 144, "count(3)", 60);
    }
}
