/** Promises 20, 21 and 22: floors and roofs, what is left, searches. */
public final class SearchTest {
    private static final int LOW = Integer.MIN_VALUE;
    private static final int HIGH = Integer.MAX_VALUE;
    private static final Due DUE = new Due("SearchTest");

    public static void main(String[] args) {
        bound();
        badBounds();
        left();
        leftOfNone();
        smooth();
        smoothByPlaces();
        searchToOneLeft();
        searchEndsAtTriedNext();
        searchWithNoise();
        searchRefusals();
        searchPicksTheLeastNumber();
        greatestFloorOfTheAllowedAlone();
        theGreatestBench();
        DUE.end();
    }

    /** Worth 0, 8, 4, 12, 3, 11; of which 0 and 3 were tried. */
    private static KnobBench twoTried() {
        KnobBench x = new KnobBench();
        x.knob(2);
        x.knob(3);
        x.steep(0, 10);
        x.steep(1, 5);
        x.effect(0, 1, -1, 0, 8);
        x.effect(1, 1, -1, 0, 4);
        x.effect(1, 2, -1, 0, 3);
        x.trial(0);
        x.trial(3);
        return x;
    }

    private static void boundsAre(KnobBench x, int[] floors, int[] roofs) {
        for (int s = 0; s < floors.length; s++) {
            DUE.is("floor of " + s, x.bound(s, 0), floors[s]);
            DUE.is("roof of " + s, x.bound(s, 1), roofs[s]);
        }
    }

    private static void bound() {
        KnobBench x = twoTried();
        boundsAre(x, new int[] {0, 7, 2, 12, -3, 7}, new int[] {0, 10, 5, 12, 10, 17});
        x.noise(2);
        boundsAre(x, new int[] {-2, 5, 0, 10, -5, 5}, new int[] {2, 12, 7, 14, 12, 19});
        x.noise(0);
        x.steep(1, 0);
        boundsAre(x, new int[] {2, 12, 2, 12, 2, 12}, new int[] {0, 10, 0, 10, 0, 10});
        x.steep(1, 1);
        x.place(1, 2, -40);
        // Knob 1's values are at 0, 1, -40 now.
        DUE.is("floor by places", x.bound(4, 0), -39);
        DUE.is("roof by places", x.bound(4, 1), 40);
        x.rule(false, 0, 1, 1, 1);
        DUE.is("a banned one's trial counts", x.bound(5, 1), 50);
        DUE.is("a banned one has a floor", x.bound(3, 0), 12);
        x.forget();
        boundsAre(x, new int[] {-1000000, -1000000}, new int[] {1000000, 1000000});
    }

    private static void badBounds() {
        KnobBench x = twoTried();
        int[][] bad = {{-1, 0}, {6, 0}, {0, -1}, {0, 2}, {LOW, 0}, {HIGH, 0}, {0, LOW}, {0, HIGH}};
        for (int[] b : bad) {
            DUE.is("bound(" + b[0] + ", " + b[1] + ")", x.bound(b[0], b[1]), -10000000);
        }
        KnobBench far = new KnobBench();
        for (int k = 0; k < 6; k++) {
            far.knob(2);
            far.steep(k, 100);
            far.place(k, 0, -100);
            far.place(k, 1, 100);
        }
        far.trial(0);
        DUE.is("as far as can be: floor", far.bound(63, 0), -120000);
        DUE.is("as far as can be: roof", far.bound(63, 1), 120000);
    }

    private static void left() {
        KnobBench x = twoTried();
        DUE.is("a roof at the greatest floor is left", x.left(0), 2);
        DUE.is("the greatest roof", x.left(1), 5);
        x.rule(false, 0, 1, 1, 1);
        DUE.is("a banned one's floor does not count", x.left(0), 3);
        DUE.is("the greatest roof", x.left(1), 5);
        x.rule(false, 0, 1, 1, 2);
        DUE.is("two with one roof", x.left(0), 2);
        DUE.is("the least number", x.left(1), 1);
        for (int bad : new int[] {LOW, -1, 3, HIGH}) {
            DUE.is("left(" + bad + ")", x.left(bad), KnobBench.BAD);
        }
        x.forget();
        DUE.is("all that are allowed", x.left(0), 4);
        DUE.is("the first of them", x.left(1), 0);
        x.rule(false, 0, 0, 1, 0);
        DUE.is("the first that is allowed", x.left(1), 1);
    }

    private static void leftOfNone() {
        KnobBench x = new KnobBench();
        x.knob(2);
        x.effect(0, 1, -1, 0, 5);
        x.trial(0);
        DUE.is("both", x.left(0), 2);
        x.trial(1);
        DUE.is("readings that can not be", x.left(0), 0);
        DUE.is("no next", x.left(1), KnobBench.NONE);
        DUE.is("a search ends", x.search(30), 0);
        DUE.is("two trials", x.count(3), 2);
        x.noise(2);
        DUE.is("still", x.left(0), 0);
        x.noise(3);
        DUE.is("with that noise they can be", x.left(0), 2);
        KnobBench y = noneAllowed();
        DUE.is("none is allowed", y.left(0), 0);
        DUE.is("none is next", y.left(1), KnobBench.NONE);
        DUE.is("no two are too far apart", y.left(2), 1);
    }

    private static KnobBench noneAllowed() {
        KnobBench x = new KnobBench();
        x.knob(2);
        x.knob(2);
        x.effect(0, 1, -1, 0, 5);
        for (int v = 0; v < 2; v++) {
            x.rule(true, 0, v, 1, 0);
            x.rule(true, 0, v, 1, 1);
        }
        return x;
    }

    private static void smooth() {
        KnobBench x = new KnobBench();
        x.knob(2);
        x.knob(2);
        DUE.is("all alike", x.left(2), 1);
        x.effect(0, 1, -1, 0, -3);
        DUE.is("3 apart, 0 off", x.left(2), 0);
        x.steep(0, 2);
        DUE.is("3 apart, 2 off", x.left(2), 0);
        x.steep(0, 3);
        DUE.is("3 apart, 3 off", x.left(2), 1);
        x.effect(0, 1, 1, 1, -1);
        DUE.is("4 apart, 3 off", x.left(2), 0);
        x.rule(false, 0, 1, 1, 1);
        DUE.is("but not of the allowed ones", x.left(2), 1);
        x.noRule();
        x.steep(0, 4);
        DUE.is("1 apart by knob 1", x.left(2), 0);
        x.steep(1, 1);
        DUE.is("by both", x.left(2), 1);
        x.trial(0);
        x.noise(9);
        x.effect(1, 1, -1, 0, 3);
        DUE.is("trials and noise are not looked at", x.left(2), 0);
    }

    private static void smoothByPlaces() {
        KnobBench x = new KnobBench();
        x.knob(3);
        x.steep(0, 1);
        x.effect(0, 2, -1, 0, 10);
        DUE.is("10 apart, 1 off", x.left(2), 0);
        x.place(0, 2, -9);
        DUE.is("0 and 2: 10 apart, 9 off", x.left(2), 0);
        x.place(0, 2, -10);
        DUE.is("10 apart, 10 and 11 off", x.left(2), 1);
        x.place(0, 2, 11);
        DUE.is("10 apart, 11 and 10 off", x.left(2), 1);
        x.place(0, 2, 10);
        DUE.is("1 and 2: 10 apart, 9 off", x.left(2), 0);
    }

    private static void searchToOneLeft() {
        KnobBench x = twoTried();
        DUE.is("one trial", x.search(30), 1);
        DUE.is("of next", x.read(2, 1), 5);
        DUE.is("as it reads", x.read(2, 0), 11);
        DUE.is("one is left", x.left(0), 1);
        DUE.is("the best", x.left(1), 3);
        DUE.is("it has ended", x.search(30), 0);
        DUE.is("three trials", x.count(3), 3);
    }

    private static void searchPicksTheLeastNumber() {
        KnobBench x = twoTried();
        x.forget();
        x.rule(false, 0, 0, 1, 0);
        DUE.is("one turn", x.search(1), 1);
        DUE.is("the first that is allowed", x.read(0, 1), 1);
        DUE.is("no more turns than told", x.search(2), 2);
        // By 1, which read 8: roofs of 2 to 5 are 23, 13, 28, 18; then by 4, which read 3: 8, 13, 3, 13.
        DUE.is("then the greatest roof", x.read(1, 1), 4);
        DUE.is("then of two the least", x.read(2, 1), 3);
    }

    private static void searchEndsAtTriedNext() {
        KnobBench x = new KnobBench();
        x.knob(2);
        DUE.is("one trial shows both", x.search(30), 1);
        DUE.is("both are left", x.left(0), 2);
        DUE.is("next was tried", x.search(30), 0);
        x.forget();
        x.noise(3);
        x.trial(0);
        x.noise(0);
        DUE.is("next was tried; the noise is 0 as it is asked", x.search(30), 0);
        x.noise(3);
        DUE.is("with noise it is tried again", x.search(4), 4);
        DUE.is("next", x.read(4, 1), 0);
    }

    private static void searchWithNoise() {
        KnobBench x = new KnobBench();
        x.knob(2);
        x.noise(1);
        DUE.is("five turns", x.search(5), 5);
        DUE.is("thirty turns", x.search(30), 30);
        DUE.is("to 60", x.search(30), 25);
        DUE.is("60", x.count(3), 60);
        DUE.is("no more", x.search(1), 0);
        DUE.is("60 still", x.count(3), 60);
        long seed = 1;
        for (int i = 0; i < 60; i++) {
            seed = (seed * 69069 + 5) % (1L << 30);
            DUE.is("each reads with noise of its own", x.read(i, 0), (int) (seed / 64 % 3) - 1);
        }
    }

    private static void searchRefusals() {
        KnobBench x = twoTried();
        String before = Look.at(x);
        for (int bad : new int[] {LOW, -1, 0, 31, HIGH}) {
            DUE.is("search(" + bad + ")", x.search(bad), KnobBench.BAD);
        }
        DUE.same("after BAD searches", Look.at(x), before);
        KnobBench y = noneAllowed();
        DUE.is("none is allowed", y.search(1), KnobBench.NO);
        DUE.is("none is allowed, and BAD", y.search(31), KnobBench.BAD);
        DUE.is("no trial", y.count(3), 0);
        DUE.is("one setting alone is left at once", new KnobBench().search(30), 0);
    }

    private static void greatestFloorOfTheAllowedAlone() {
        KnobBench x = new KnobBench();
        x.knob(2);
        x.knob(2);
        x.steep(0, 1);
        x.effect(0, 1, 1, 1, 50);
        x.trial(0);
        x.trial(3);
        // 3 read 50, so 0 (which read 0) and 2 have floors of 49: none can be.
        DUE.is("all", x.left(0), 0);
        x.forget();
        x.steep(0, 100);
        x.trial(0);
        x.trial(3);
        DUE.is("floors 0, 50, 0, 50; roofs 0, 50, 0, 50", x.left(0), 2);
        x.rule(false, 0, 1, 1, 1);
        x.rule(false, 0, 1, 1, 0);
        DUE.is("of 0 and 2 both", x.left(0), 2);
        DUE.is("next of them", x.left(1), 0);
    }

    private static void theGreatestBench() {
        KnobBench x = new KnobBench();
        for (int values : new int[] {3, 2, 2, 3, 2, 2}) {
            int k = x.knob(values);
            x.steep(k, 10);
            x.effect(k, 1, -1, 0, 10);
        }
        DUE.is("144 are left", x.left(0), 144);
        DUE.is("it is smooth", x.left(2), 1);
        DUE.is("the best", x.best(1), 1 + 3 + 6 + 12 + 36 + 72);
        DUE.is("two turns", x.search(2), 2);
        // 0 read 0; 143 (with 2, 1, 1, 2, 1, 1) is 80 off from it, the farthest, and reads 40.
        DUE.is("first", x.read(0, 1), 0);
        DUE.is("then the farthest", x.read(1, 1), 143);
        DUE.is("as it reads", x.read(1, 0), 40);
        // Roofs are the lower of OFF from 0 and 120 less that: 60 at the most; 2, 1, 1, 2, 0, 0 has it first.
        DUE.is("next", x.left(1), 35);
        DUE.is("its floor", x.bound(35, 0), 20);
        DUE.is("its roof", x.bound(35, 1), 60);
        for (int i = 3; i <= 60; i++) {
            DUE.is("trial", x.trial(143), i);
        }
        DUE.is("two were tried", x.count(4), 2);
        DUE.is("next as before", x.left(1), 35);
        DUE.is("no more turns", x.search(30), 0);
        DUE.is("no pair", x.pairs(5, 0, 1, 0), 0);
        DUE.is("odds", x.odds(0, 143, 0), 1);
        DUE.is("of one and eight", x.odds(0, 143, 1), 9);
        DUE.is("back: 2 of a knob of three is worth what 0 is", x.back(143, 0), 3 + 6 + 36 + 72);
    }
}
