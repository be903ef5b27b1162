/** Where the document says "at most", "not below", "above", "the least": just there, and one to either side. */
public final class EdgesTest {
    private static final Due DUE = new Due("EdgesTest");

    public static void main(String[] args) {
        roofAtTheFloor();
        leastNumberOfNext();
        leastNumberOfBest();
        smoothness();
        searchEndsAtOneLeft();
        searchEndsAtTriedNext();
        searchEndsAtTurns();
        above4z();
        ranks();
        oddsAtMost();
        putBack();
        DUE.end();
    }

    private static Run run(String before) {
        return new Run(DUE, before);
    }

    private static void roofAtTheFloor() {
        DUE.by("An ALLOWED SETTING is LEFT, if its ROOF is not below the greatest FLOOR of all ALLOWED ones.");
        // 0 and 1 are 20 off and read 0 and what 1 is worth: roofs 0 and that, with z 5 at either side.
        String two = "knob(2); steep(0, 20); noise(0); effect(0, 1, -1, 0, #); trial(0); trial(1)";
        run(two.replace("#", "9")).is("noise(5)", 0, "left(0)", 2);
        run(two.replace("#", "10")).is("noise(5)", 0, "bound(0, 1)", 5, "bound(1, 0)", 5, "left(0)", 2);
        run(two.replace("#", "11")).is("noise(5)", 0, "bound(0, 1)", 5, "bound(1, 0)", 6, "left(0)", 1, "left(1)", 1);
        run(two.replace("#", "0")).is("left(0)", 2);
        // The floor may be that of 0, too.
        run(two.replace("#", "-10")).is("noise(5)", 0, "bound(1, 1)", -5, "bound(0, 0)", -5, "left(0)", 2);
        run(two.replace("#", "-11")).is("noise(5)", 0, "bound(1, 1)", -6, "bound(0, 0)", -5, "left(0)", 1, "left(1)", 0);
        // The greatest floor counts of allowed ones alone.
        run("knob(2); knob(2); steep(0, 50); effect(0, 1, -1, 0, 30); trial(0); trial(1); rule(false, 0, 1, 1, 0); "
            + "rule(false, 0, 1, 1, 1)").is("bound(1, 0)", 30, "bound(0, 1)", 0, "left(0)", 2, "left(1)", 0);
    }

    private static void leastNumberOfNext() {
        DUE.by("NEXT is that LEFT with the greatest ROOF; of several the least NUMBER.");
        // By 1 in the middle: roofs 10, 0, 10 of 0, 1, 2; then a roof one higher, at either end.
        String middle = "knob(3); steep(0, 1); place(0, 0, -10); place(0, 1, 0); place(0, 2, #); trial(1)";
        run(middle.replace("#", "9")).is("left(1)", 0);
        run(middle.replace("#", "10")).is("left(1)", 0);
        run(middle.replace("#", "11")).is("left(1)", 2);
        run(middle.replace("#", "11")).is("search(1)", 1, "read(1, 1)", 2);
        run(middle.replace("#", "10")).is("search(1)", 1, "read(1, 1)", 0);
    }

    private static void leastNumberOfBest() {
        DUE.by("The greatest WORTH of all ALLOWED ones (best = 0), the least NUMBER with it (1).");
        String two = "knob(3); knob(2); effect(0, 1, -1, 0, 5); effect(0, 2, -1, 0, #)";
        run(two.replace("#", "4")).is("best(1)", 1, "best(0)", 5);
        run(two.replace("#", "5")).is("best(1)", 1, "best(0)", 5);
        run(two.replace("#", "6")).is("best(1)", 2, "best(0)", 6);
        run(two.replace("#", "5") + "; rule(false, 0, 1, 1, 0)").is("best(1)", 2, "best(0)", 5);
    }

    private static void smoothness() {
        DUE.by("THE TOLD SMOOTHNESS is TRUE, if of any two ALLOWED SETTINGS WORTH is at most OFF apart.");
        String two = "base(50); knob(2); knob(2); steep(0, 3); steep(1, 4); effect(0, 1, 1, 1, #)";
        // 3 is 3 off from 2, 4 off from 1, 7 off from 0.
        run(two.replace("#", "2")).is("left(2)", 1);
        run(two.replace("#", "3")).is("left(2)", 1);
        run(two.replace("#", "4")).is("left(2)", 0);
        run(two.replace("#", "-3")).is("left(2)", 1);
        run(two.replace("#", "-4")).is("left(2)", 0);
        // Without 2 it is 1 that is nearest; without both it is 0.
        run(two.replace("#", "4") + "; rule(false, 0, 0, 1, 1)").is("left(2)", 1);
        run(two.replace("#", "5") + "; rule(false, 0, 0, 1, 1)").is("left(2)", 0);
        run(two.replace("#", "7") + "; rule(true, 0, 0, 1, 0); rule(true, 0, 1, 1, 1)").is("book()", 2, "left(2)", 1);
        run(two.replace("#", "8") + "; rule(true, 0, 0, 1, 0); rule(true, 0, 1, 1, 1)").is("book()", 2, "left(2)", 0);
    }

    private static void searchEndsAtOneLeft() {
        DUE.by("it ends, if one is LEFT");
        // One allowed is left before anything was tried: a search has nothing to do.
        run("").is("search(30)", 0, "count(3)", 0);
        run("knob(2); knob(2); rule(true, 0, 0, 1, 0); rule(true, 0, 0, 1, 1); rule(false, 0, 1, 1, 0)").is("book()", 1,
            "left(1)", 3, "search(30)", 0, "count(3)", 0);
        // 0 reads 0; 1, which is 9 off, reads 9 and is left alone, with noise as without.
        run("knob(2); steep(0, 9); effect(0, 1, -1, 0, 9)").is("search(30)", 2, "left(0)", 1, "left(1)", 1, "search(30)", 0);
        run("knob(2); steep(0, 9); effect(0, 1, -1, 0, 9); trial(0); trial(1); noise(4)").is("left(0)", 1, "search(30)", 0,
            "noise(5)", 4, "left(0)", 2, "search(1)", 1);
    }

    private static void searchEndsAtTriedNext() {
        DUE.by("if NEXT was tried already with the NOISE 0");
        // All alike and told so: one trial shows it, and NEXT is 0 again.
        run("knob(4)").is("search(30)", 1, "left(0)", 4, "left(1)", 0, "search(30)", 0);
        // All alike, but not told so: 0, 3, 1, 2 have the greatest roof by turns; then NEXT is 0 again.
        run("knob(4); steep(0, 1)").is("search(30)", 4, "read(0, 1)", 0, "read(1, 1)", 3, "read(2, 1)", 1, "read(3, 1)", 2,
            "left(0)", 4, "left(1)", 0, "search(30)", 0);
    }

    private static void searchEndsAtTurns() {
        DUE.by("or at the told turns");
        for (int turns : new int[] {1, 2, 29, 30}) {
            run("knob(2); noise(1)").is("search(" + turns + ")", turns, "count(3)", turns);
        }
        run("knob(4); steep(0, 1)").is("search(2)", 2, "search(1)", 1, "count(3)", 3, "search(2)", 1, "search(1)", 0);
    }

    private static void above4z() {
        DUE.by("It is JOINT, if that is above 4 z or below - 4 z.");
        for (int z : new int[] {0, 1, 50}) {
            for (int more = -1; more <= 1; more++) {
                int excess = 4 * z + more;
                Run x = run("knob(2); knob(2); effect(0, 1, 1, 1, " + excess + "); trial(0); trial(1); trial(2); trial(3)");
                int due = Math.abs(excess) > 4 * z ? 1 : 0;
                x.is("noise(" + z + ")", 0, "joint(0, 0, 0, 1, 1, 0, 1)", due, "joint(0, 0, 1, 0, 1, 0, 1)", due,
                    "excess(0, 0, 0, 1, 1, 0, 1)", excess, "excess(0, 0, 0, 1, 1, 1, 0)", -excess);
            }
        }
    }

    private static void ranks() {
        DUE.by("those count in which the sum of ranks of y's is at least what it is");
        // x reads 10 and 20; y reads one: below, like, between, like, above. Ranks 0 2 4, 1 1 4, 0 2 4, 0 3 3, 0 2 4.
        int[] y = {9, 10, 15, 20, 21};
        int[] count = {3, 3, 2, 2, 1};
        for (int i = 0; i < y.length; i++) {
            run("knob(2); base(10); trial(0); base(20); trial(0); base(" + y[i] + "); trial(1)").is("odds(0, 1, 0)", count[i],
                "odds(0, 1, 1)", 3);
        }
        // Ranks of 1, 1, 2, 2, 3 are 1, 1, 5, 5, 8; y's are both 5: 10 counts, 13 counts, 1 and 8 are one less.
        run("knob(2); base(1); 2 x trial(0); base(3); trial(0); base(2); 2 x trial(1)").is("odds(0, 1, 0)", 3, "odds(0, 1, 1)", 10);
    }

    private static void oddsAtMost() {
        DUE.by("1: THE ODDS are at most a by b");
        // Two of three.
        String twoOfThree = "knob(2); base(10); trial(0); base(20); trial(0); base(15); trial(1)";
        run(twoOfThree).is("safe(0, 1, 2, 3)", 1, "safe(0, 1, 666, 999)", 1, "safe(0, 1, 665, 999)", 0,
            "safe(0, 1, 666, 1000)", 0, "safe(0, 1, 667, 1000)", 1, "safe(0, 1, 1, 2)", 0, "safe(0, 1, 1000, 1)", 1);
        // One of 12870, the least there can be, is above nothing but 0.
        run("knob(2); base(1); 8 x trial(0); base(2); 8 x trial(1)").is("safe(0, 1, 0, 1)", 0, "safe(0, 1, 0, 1000)", 0,
            "safe(0, 1, 1, 1000)", 1, "safe(1, 0, 1000, 1000)", 1, "safe(1, 0, 999, 1000)", 0, "safe(1, 0, 1, 1)", 1);
    }

    private static void putBack() {
        DUE.by("if with y's VALUE of it the SETTING (as it is by then) is ALLOWED and has the same WORTH, it gets that");
        String one = "knob(2); effect(0, 1, -1, 0, #)";
        run(one.replace("#", "0")).is("back(1, 0)", 0, "back(0, 1)", 1);
        run(one.replace("#", "1")).is("back(1, 0)", 1, "back(0, 1)", 0);
        run(one.replace("#", "-1")).is("back(1, 0)", 1, "back(0, 1)", 0);
    }
}
