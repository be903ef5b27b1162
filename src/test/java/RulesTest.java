/** Promises 5, 6, 13 and 14: rules, and which settings they allow. */
public final class RulesTest {
    private static final int LOW = Integer.MIN_VALUE;
    private static final int HIGH = Integer.MAX_VALUE;
    private static final Due DUE = new Due("RulesTest");

    public static void main(String[] args) {
        ban();
        need();
        badRules();
        fullRules();
        noRule();
        allowedAndBook();
        DUE.end();
    }

    private static KnobBench twoByThree() {
        KnobBench x = new KnobBench();
        x.knob(2);
        x.knob(3);
        return x;
    }

    private static void allowedAre(String what, KnobBench x, String want) {
        StringBuilder got = new StringBuilder();
        int many = 0;
        for (int s = 0; s < x.count(1); s++) {
            got.append(x.allowed(s));
            many += x.allowed(s);
        }
        DUE.same(what, got.toString(), want);
        DUE.is(what + ": book", x.book(), many);
    }

    private static void ban() {
        KnobBench x = twoByThree();
        DUE.is("a ban", x.rule(false, 0, 1, 1, 2), 1);
        allowedAre("1 with 2 is banned", x, "111110");
        DUE.is("a ban with the higher knob ahead", x.rule(false, 1, 0, 0, 0), 2);
        allowedAre("and 0 with 0", x, "011110");
    }

    private static void need() {
        KnobBench x = twoByThree();
        DUE.is("a need", x.rule(true, 0, 1, 1, 2), 1);
        allowedAre("1 needs 2", x, "101011");
        DUE.is("a need with the higher knob ahead", x.rule(true, 1, 1, 0, 1), 2);
        allowedAre("and 1 needs 1", x, "100011");
    }

    private static void badRules() {
        KnobBench x = twoByThree();
        x.rule(false, 0, 1, 1, 2);
        String before = Look.at(x);
        int[][] bad = {{-1, 0, 1, 0}, {2, 0, 1, 0}, {0, -1, 1, 0}, {0, 2, 1, 0}, {0, 0, -1, 0}, {0, 0, 2, 0},
            {0, 0, 1, -1}, {0, 0, 1, 3}, {0, 0, 0, 1}, {1, 1, 1, 1}, {LOW, 0, 1, 0}, {HIGH, 0, 1, 0},
            {0, LOW, 1, 0}, {0, HIGH, 1, 0}, {0, 0, LOW, 0}, {0, 0, HIGH, 0}, {0, 0, 1, LOW}, {0, 0, 1, HIGH}};
        for (int[] b : bad) {
            String call = b[0] + ", " + b[1] + ", " + b[2] + ", " + b[3];
            DUE.is("rule(false, " + call, x.rule(false, b[0], b[1], b[2], b[3]), KnobBench.BAD);
            DUE.is("rule(true, " + call, x.rule(true, b[0], b[1], b[2], b[3]), KnobBench.BAD);
        }
        DUE.same("after BAD rules", Look.at(x), before);
    }

    private static void fullRules() {
        KnobBench x = twoByThree();
        for (int i = 1; i <= 11; i++) {
            DUE.is("the same ban again", x.rule(false, 0, 1, 1, 2), i);
        }
        DUE.is("a twelfth", x.rule(true, 1, 1, 0, 1), 12);
        DUE.is("a thirteenth", x.rule(false, 0, 0, 1, 0), KnobBench.FULL);
        DUE.is("a BAD thirteenth", x.rule(false, 0, 0, 0, 0), KnobBench.BAD);
        DUE.is("twelve are there", x.count(2), 12);
        allowedAre("by twelve", x, "110110");
        DUE.is("one goes", x.noRule(), 11);
        allowedAre("the latest went", x, "111110");
        DUE.is("one comes", x.rule(false, 0, 0, 1, 0), 12);
        allowedAre("the newest counts", x, "011110");
    }

    private static void noRule() {
        KnobBench x = twoByThree();
        DUE.is("there is none", x.noRule(), KnobBench.NO);
        x.rule(false, 0, 0, 1, 0);
        x.rule(false, 0, 1, 1, 0);
        DUE.is("one is left", x.noRule(), 1);
        allowedAre("the first stays", x, "011111");
        DUE.is("none is left", x.noRule(), 0);
        allowedAre("all", x, "111111");
        DUE.is("there is none again", x.noRule(), KnobBench.NO);
        DUE.is("and stays none", x.count(2), 0);
    }

    private static void allowedAndBook() {
        KnobBench x = twoByThree();
        for (int bad : new int[] {LOW, -1, 6, HIGH}) {
            DUE.is("allowed(" + bad + ")", x.allowed(bad), KnobBench.BAD);
        }
        x.rule(true, 0, 0, 1, 0);
        x.rule(true, 0, 0, 1, 1);
        allowedAre("two needs against one another", x, "010101");
        x.rule(true, 0, 1, 1, 0);
        x.rule(true, 0, 1, 1, 1);
        allowedAre("none", x, "000000");
        DUE.is("knob(2)", x.knob(2), 2);
        DUE.is("rules stay with a knob more", x.book(), 0);
        x.noRule();
        DUE.is("one of each new value", x.book(), 2);
        DUE.is("1, 0, 0", x.allowed(1), 1);
        DUE.is("1, 0, 1", x.allowed(7), 1);
    }
}
