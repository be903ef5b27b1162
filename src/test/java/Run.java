import java.lang.reflect.Method;
import java.util.HashMap;
import java.util.Map;

/** A new object and the calls on it, each told by its text: "rule(false, 0, 1, 1, 2)". */
final class Run {
    private static final int MOST_CALLS = 512;
    /** Up to so many settings each one is looked at; of more it would take too many calls. */
    private static final int FEW_SETTINGS = 24;
    private static final Map<String, Method> FACE = new HashMap<>();
    private static final Map<String, String> STATES = new HashMap<>();

    private final Due due;
    private final KnobBench bench = new KnobBench();
    private int calls = 0;

    static {
        for (Method m : KnobBench.class.getDeclaredMethods()) {
            FACE.put(m.getName(), m);
        }
    }

    /** Begins with calls, "; " between them and "9 x " ahead of one that comes 9 times; none is refused. */
    Run(Due due, String before) {
        this.due = due;
        does(before);
    }

    void does(String calls) {
        for (String told : calls.isEmpty() ? new String[0] : calls.split("; ")) {
            int x = told.indexOf(" x ");
            int times = x < 0 ? 1 : Integer.parseInt(told.substring(0, x));
            String call = x < 0 ? told : told.substring(x + 3);
            for (int i = 0; i < times; i++) {
                int answer = ask(call);
                due.holds(call + ", which answered " + answer + ", is taken", answer >= 0);
            }
        }
    }

    /** Asks and compares, call by call: "knob(2)", 0, "knob(3)", 1. */
    void is(Object... callsAndAnswers) {
        for (int i = 0; i < callsAndAnswers.length; i += 2) {
            String call = (String) callsAndAnswers[i];
            due.is(call, ask(call), (Integer) callsAndAnswers[i + 1]);
        }
    }

    /** A call that is refused (or does nothing) after these: it has this answer and changes nothing. */
    static void refused(Due due, String before, String call, int answer) {
        Run run = new Run(due, before);
        run.is(call, answer);
        String want = STATES.computeIfAbsent(before, b -> new Run(due, b).state());
        due.same("after " + before + "; " + call, run.state(), want);
    }

    int ask(String call) {
        calls++;
        due.holds(call + " is among the first " + MOST_CALLS + " calls", calls <= MOST_CALLS);
        int open = call.indexOf('(');
        Method m = FACE.get(call.substring(0, open));
        String inside = call.substring(open + 1, call.length() - 1);
        String[] told = inside.isEmpty() ? new String[0] : inside.split(", ");
        Object[] arguments = new Object[told.length];
        for (int i = 0; i < told.length; i++) {
            boolean isFlag = m.getParameterTypes()[i] == boolean.class;
            arguments[i] = isFlag ? (Object) told[i].equals("true") : (Object) Integer.valueOf(told[i]);
        }
        try {
            return (Integer) m.invoke(bench, arguments);
        } catch (ReflectiveOperationException e) {
            throw new IllegalStateException(call, e);
        }
    }

    /** All that the object holds, as one text. It is taken apart for that: the object is spent then. */
    String state() {
        StringBuilder s = new StringBuilder();
        for (int what = 0; what <= 5; what++) {
            tell(s, "count(" + what + ")");
        }
        tellTrials(s);
        tell(s, "left(0)", "left(1)", "left(2)", "best(0)", "best(1)");
        if (ask("count(1)") <= FEW_SETTINGS) {
            tellSettings(s);
        }
        takeRules(s);
        takeKnobs(s);
        tell(s, "base(0)", "noise(50)", "forget()");
        // The seed shows in what it leads to alone.
        for (int i = 0; i < 4; i++) {
            tell(s, "trial(0)", "read(" + i + ", 0)");
        }
        return s.toString();
    }

    private void tell(StringBuilder s, String... asked) {
        for (String call : asked) {
            s.append(call).append('=').append(ask(call)).append(' ');
        }
    }

    private void tellTrials(StringBuilder s) {
        int trials = ask("count(3)");
        for (int i = 0; i < trials; i++) {
            tell(s, "read(" + i + ", 1)", "read(" + i + ", 0)");
        }
    }

    private void tellSettings(StringBuilder s) {
        int settings = ask("count(1)");
        for (int x = 0; x < settings; x++) {
            tell(s, "worth(" + x + ")", "bound(" + x + ", 0)", "bound(" + x + ", 1)");
        }
    }

    private void takeRules(StringBuilder s) {
        int settings = ask("count(1)");
        int rules = ask("count(2)");
        for (int i = 0; i <= rules; i++) {
            tell(s, "book()");
            for (int x = 0; settings * rules <= 4 * FEW_SETTINGS && x < settings; x++) {
                tell(s, "allowed(" + x + ")");
            }
            tell(s, "noRule()");
        }
    }

    private void takeKnobs(StringBuilder s) {
        int[] sizes = new int[ask("count(0)")];
        for (int k = 0; k < sizes.length; k++) {
            tell(s, "steep(" + k + ", 0)");
            sizes[k] = takePlaces(s, k);
            for (int v = 0; v < sizes[k]; v++) {
                tell(s, "effect(" + k + ", " + v + ", -1, 0, 0)");
                takeJoints(s, sizes, k, v);
            }
        }
    }

    /** Answers how many values the knob has: the first that has no place ends them. */
    private int takePlaces(StringBuilder s, int knob) {
        for (int v = 0; v < 4; v++) {
            int was = ask("place(" + knob + ", " + v + ", 0)");
            if (was == -1000) {
                return v;
            }
            s.append("place ").append(was).append(' ');
        }
        return 4;
    }

    private void takeJoints(StringBuilder s, int[] sizes, int b, int w) {
        for (int a = 0; a < b; a++) {
            for (int v = 0; v < sizes[a]; v++) {
                tell(s, "effect(" + a + ", " + v + ", " + b + ", " + w + ", 0)");
            }
        }
    }
}
