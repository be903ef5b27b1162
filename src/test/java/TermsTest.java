import java.lang.reflect.Method;
import java.lang.reflect.Modifier;
import java.util.ArrayList;
import java.util.Comparator;
import java.util.List;
import java.util.Random;

/** What the document says outside of its boundary cases, sentence by sentence, with examples worked out by hand. */
public final class TermsTest {
    private static final Due DUE = new Due("TermsTest");

    public static void main(String[] args) throws ReflectiveOperationException {
        numberOfASetting();
        bans();
        needs();
        worth();
        reading();
        off();
        floorAndRoof();
        pairs();
        excess();
        ranks();
        putBack();
        changedAndCounted();
        callsAfterTheLast();
        DUE.end();
    }

    private static Run run(String before) {
        return new Run(DUE, before);
    }

    private static void numberOfASetting() {
        DUE.by("A SETTING gives each KNOB a VALUE; its NUMBER is the sum of each VALUE times the product of how many VALUES the KNOBS "
            + "ahead have (KNOB 0 counts single).");
        // Knobs of 4, 2 and 3 values count 1, 4 and 8.
        Run x = run("knob(4); knob(2); knob(3)");
        for (int a = 0; a < 4; a++) {
            for (int b = 0; b < 2; b++) {
                for (int c = 0; c < 3; c++) {
                    int number = a + 4 * b + 8 * c;
                    int ab = x.ask("with(" + x.ask("with(0, 0, " + a + ")") + ", 1, " + b + ")");
                    x.is("with(" + ab + ", 2, " + c + ")", number, "value(" + number + ", 0)", a,
                        "value(" + number + ", 1)", b, "value(" + number + ", 2)", c);
                }
            }
        }
        x.is("count(1)", 24);
    }

    private static void allowedAre(Run x, String due) {
        StringBuilder got = new StringBuilder();
        for (int s = 0; s < due.length(); s++) {
            got.append(x.ask("allowed(" + s + ")"));
        }
        DUE.same("allowed", got.toString(), due);
    }

    private static void bans() {
        DUE.by("a BAN (KNOB a with VALUE v and KNOB b with w are not together)");
        // Settings 0 to 5 are 0 0, 1 0, 2 0, 0 1, 1 1, 2 1; either knob may be told first.
        allowedAre(run("knob(3); knob(2); rule(false, 0, 2, 1, 0)"), "110111");
        allowedAre(run("knob(3); knob(2); rule(false, 1, 0, 0, 2)"), "110111");
        allowedAre(run("knob(3); knob(2); rule(false, 0, 2, 1, 0); rule(false, 0, 0, 1, 1)"), "110011");
    }

    private static void needs() {
        DUE.by("a NEED (with a at v, b is to be at w)");
        // The one that needs and the one that is needed are not alike.
        allowedAre(run("knob(3); knob(2); rule(true, 0, 2, 1, 1)"), "110111");
        allowedAre(run("knob(3); knob(2); rule(true, 1, 1, 0, 2)"), "111001");
        allowedAre(run("knob(3); knob(2); rule(true, 1, 1, 0, 2); rule(false, 0, 1, 1, 0)"), "101001");
    }

    private static void worth() {
        DUE.by("WORTH of a SETTING: a BASE (0 at first), and of all EFFECTS that fit it their numbers: single ones (KNOB a at v), "
            + "joint ones (a at v and b at w, a below b)");
        Run x = run("knob(2); knob(2); knob(2)");
        x.is("worth(7)", 0, "effect(0, 1, -1, 0, 1)", 0, "effect(1, 1, -1, 0, 2)", 0, "effect(2, 1, -1, 0, 4)", 0,
            "effect(0, 1, 1, 1, 10)", 0, "effect(0, 1, 2, 1, 20)", 0, "effect(1, 1, 2, 1, 40)", 0,
            "effect(0, 0, -1, 0, -100)", 0, "effect(1, 0, 2, 0, -200)", 0, "base(1000)", 0);
        int[] due = {1000 - 100 - 200, 1001 - 200, 1002 - 100, 1000 + 1 + 2 + 10, 1004 - 100, 1000 + 1 + 4 + 20,
            1000 + 2 + 4 + 40 - 100, 1000 + 7 + 70};
        for (int s = 0; s < due.length; s++) {
            x.is("worth(" + s + ")", due[s]);
        }
    }

    private static void reading() {
        DUE.by("A TRIAL of an ALLOWED SETTING READS: its WORTH and a number from - z to z");
        // By seed 1 and noise 50 the numbers are 19 and 39; each trial is of its own setting.
        run("knob(2); base(100); effect(0, 1, -1, 0, 7); noise(50)").is("trial(1)", 1, "trial(0)", 2, "read(0, 0)", 107 + 19,
            "read(0, 1)", 1, "read(1, 0)", 100 + 39, "read(1, 1)", 0);
    }

    private static void off() {
        DUE.by("OFF are two SETTINGS: the sum over all KNOBS of how far PLACES of their VALUES are apart, times the KNOB's STEEPNESS");
        // Places -5, 3, 10 by 2 and 7, -1 by 3: the roof by one trial that reads 0 is how far off that is.
        String told = "knob(3); knob(2); place(0, 0, -5); place(0, 1, 3); place(0, 2, 10); place(1, 0, 7); place(1, 1, -1); "
            + "steep(0, 2); steep(1, 3); trial(";
        int[] fromFirst = {0, 16, 30, 24, 16 + 24, 30 + 24};
        int[] fromLast = {30 + 24, 14 + 24, 24, 30, 14, 0};
        for (int s = 0; s < 6; s++) {
            run(told + "0)").is("bound(" + s + ", 1)", fromFirst[s], "bound(" + s + ", 0)", -fromFirst[s]);
            run(told + "5)").is("bound(" + s + ", 1)", fromLast[s], "bound(" + s + ", 0)", -fromLast[s]);
        }
    }

    private static void floorAndRoof() {
        DUE.by("By a TRIAL of y that READS r a SETTING x is WORTH at least r - z less OFF, at most r + z and OFF. FLOOR, ROOF of x: "
            + "the greatest, the least of these by all TRIALS");
        // 0 reads 100 and 2 reads 130, 40 off from one another; 1 is 10 off from 0, 30 from 2; the noise is 4.
        run("knob(3); place(0, 2, 4); steep(0, 10); base(100); trial(0); base(130); trial(2); noise(4)").is(
            "bound(0, 0)", 96, "bound(0, 1)", 104, "bound(1, 0)", 96, "bound(1, 1)", 114, "bound(2, 0)", 126, "bound(2, 1)", 134);
    }

    private static void pairs() {
        DUE.by("THE PAIRS of KNOB a for VALUES v, w: all two SETTINGS that were tried, that differ in a alone, with v and with w: how "
            + "many, and the sum of the second's less the first's.");
        // Settings 0 to 5 are 0 0, 1 0, 2 0, 0 1, 1 1, 2 1; 1 was not tried, the others read 1, 4, 9, 16, 25.
        Run x = run("knob(3); knob(2); base(1); trial(0); base(4); trial(2); base(9); trial(3); base(16); trial(4); base(25); trial(5)");
        x.is("pairs(0, 0, 1, 0)", 1, "pairs(0, 0, 1, 1)", 16 - 9, "pairs(0, 0, 2, 0)", 2, "pairs(0, 0, 2, 1)", 4 - 1 + 25 - 9,
            "pairs(0, 1, 2, 1)", 25 - 16, "pairs(0, 2, 0, 1)", 1 - 4 + 9 - 25, "pairs(1, 0, 1, 0)", 2,
            "pairs(1, 0, 1, 1)", 9 - 1 + 25 - 4, "pairs(1, 1, 0, 1)", 1 - 9 + 4 - 25);
    }

    private static void excess() {
        DUE.by("EXCESS of a at v, v' and b at w, w' in a SETTING (the other KNOBS as there): of the four: (v', w') less (v', w) less "
            + "(v, w') and (v, w).");
        // Knob 2 at 1 (settings 4 to 7): 0 0 reads 1, 1 0 reads 10, 0 1 reads 100, 1 1 reads 1000; with it at 0 all read 0.
        Run x = run("knob(2); knob(2); knob(2); trial(0); trial(1); trial(2); trial(3); base(1); trial(4); base(10); trial(5); "
            + "base(100); trial(6); base(1000); trial(7)");
        x.is("excess(4, 0, 0, 1, 1, 0, 1)", 1000 - 10 - 100 + 1, "excess(7, 0, 0, 1, 1, 0, 1)", 891,
            "excess(4, 0, 1, 0, 1, 0, 1)", 100 - 1 - 1000 + 10, "excess(4, 0, 1, 0, 1, 1, 0)", 891,
            "excess(0, 0, 0, 1, 1, 0, 1)", 0, "excess(3, 0, 0, 1, 1, 0, 1)", 0,
            "excess(0, 1, 0, 1, 2, 0, 1)", 100 - 1, "excess(1, 1, 0, 1, 2, 0, 1)", 1000 - 10);
    }

    private static void ranks() {
        DUE.by("rank is how many of all are below, twice, and how many others are like; THE ODDS are these ways by all.");
        // x reads 1, 2, 2, y reads 2, 3, 3: ranks 0, 4, 4 and 4, 9, 9; y's sum is 22 and threes of 20 with as much: 9 9 and a 4.
        String read = "knob(2); base(1); trial(0); base(2); trial(0); trial(0); trial(1); base(3); trial(1); trial(1)";
        run(read).is("odds(0, 1, 0)", 3, "odds(0, 1, 1)", 20);
        // x reads 1, 3, y reads 2, 2: ranks 0, 6 and 3, 3, so both sums are 6; of six ways two (0 with a 3) have less.
        run("knob(2); base(1); trial(0); base(3); trial(0); base(2); 2 x trial(1)").is("odds(0, 1, 0)", 4, "odds(1, 0, 0)", 4,
            "odds(0, 1, 1)", 6);
        DUE.by("THE ODDS that y reads no better than x");
        // The other way round the sum is 8, and no three have less.
        run(read).is("odds(1, 0, 0)", 20, "odds(1, 0, 1)", 20, "safe(0, 1, 3, 20)", 1, "safe(0, 1, 2, 20)", 0, "safe(1, 0, 19, 20)", 0);
    }

    private static void putBack() {
        DUE.by("PUT BACK is x towards y: KNOB by KNOB, by numbers: if with y's VALUE of it the SETTING (as it is by then) is ALLOWED and "
            + "has the same WORTH, it gets that.");
        // Knob 0 at 1 alone is worth 5 and so is knob 1 at 1, but both are worth 5, too: the first that comes goes.
        run("knob(2); knob(2); effect(0, 1, -1, 0, 5); effect(1, 1, -1, 0, 5); effect(0, 1, 1, 1, -5)").is("back(3, 0)", 2,
            "rule(false, 0, 0, 1, 1)", 1, "back(3, 0)", 1, "rule(false, 0, 1, 1, 0)", 2, "back(3, 0)", 3);
    }

    private static void changedAndCounted() {
        DUE.by("The NOISE: what it was. BAD.");
        run("").is("noise(7)", 0, "noise(7)", 7, "noise(51)", -1, "noise(3)", 7, "count(5)", 3);
        DUE.by("How many SETTINGS are ALLOWED.");
        run("knob(4); knob(3)").is("book()", 12, "rule(true, 0, 3, 1, 2)", 1, "book()", 10, "rule(false, 0, 0, 1, 0)", 2, "book()", 9,
            "noRule()", 1, "book()", 10);
        DUE.by("How many: 0 KNOBS, 1 SETTINGS, 2 RULES, 3 TRIALS, 4 SETTINGS that were tried, 5 the NOISE. BAD.");
        run("knob(4); knob(3); rule(false, 0, 0, 1, 0); noise(9); 3 x trial(5); trial(11)").is("count(0)", 2, "count(1)", 12,
            "count(2)", 1, "count(3)", 4, "count(4)", 2, "count(5)", 9, "count(6)", -1);
    }

    private static void callsAfterTheLast() throws ReflectiveOperationException {
        DUE.by("what later calls answer is free");
        // Free, but by LANGUAGE.md no call may throw in any state: one that did would end this test.
        Random random = new Random(512);
        List<Method> face = face();
        KnobBench bench = new KnobBench();
        for (int i = 0; i < 100000; i++) {
            Method call = face.get(random.nextInt(face.size()));
            call.invoke(bench, someNumbers(call, random));
        }
        DUE.is("the calls of the face", face.size(), 28);
    }

    private static List<Method> face() {
        List<Method> face = new ArrayList<>();
        for (Method m : KnobBench.class.getDeclaredMethods()) {
            if (Modifier.isPublic(m.getModifiers())) {
                face.add(m);
            }
        }
        face.sort(Comparator.comparing(Method::getName));
        return face;
    }

    private static Object[] someNumbers(Method call, Random random) {
        Object[] numbers = new Object[call.getParameterCount()];
        for (int k = 0; k < numbers.length; k++) {
            if (call.getParameterTypes()[k] == boolean.class) {
                numbers[k] = random.nextBoolean();
            } else {
                numbers[k] = random.nextInt(50) == 0 ? random.nextInt() : random.nextInt(6) - 1;
            }
        }
        return numbers;
    }
}
