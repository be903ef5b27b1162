import java.io.IOException;
import java.lang.reflect.Constructor;
import java.lang.reflect.Field;
import java.lang.reflect.Method;
import java.lang.reflect.Modifier;
import java.nio.file.Files;
import java.nio.file.Path;
import java.util.ArrayList;
import java.util.List;
import java.util.Set;
import java.util.TreeSet;

/** The public face of the document, no more and no less, and what LANGUAGE.md forbids. */
public final class FaceTest {
    private static final Due DUE = new Due("FaceTest");

    private static final String[] FACE = {
        "knob(int)", "place(int,int,int)", "steep(int,int)", "rule(boolean,int,int,int,int)", "noRule()",
        "effect(int,int,int,int,int)", "base(int)", "noise(int)", "seed(int)", "with(int,int,int)",
        "value(int,int)", "allowed(int)", "book()", "worth(int)", "best(int)", "trial(int)", "read(int,int)",
        "forget()", "bound(int,int)", "left(int)", "search(int)", "pairs(int,int,int,int)",
        "excess(int,int,int,int,int,int,int)", "joint(int,int,int,int,int,int,int)", "odds(int,int,int)",
        "safe(int,int,int,int)", "back(int,int)", "count(int)",
    };

    public static void main(String[] args) throws IOException {
        constants();
        methods();
        constructor();
        insides();
        source();
        DUE.end();
    }

    private static void constants() {
        DUE.is("BAD", KnobBench.BAD, -1);
        DUE.is("NO", KnobBench.NO, -2);
        DUE.is("FULL", KnobBench.FULL, -3);
        DUE.is("NONE", KnobBench.NONE, -4);
        Set<String> open = new TreeSet<>();
        for (Field f : KnobBench.class.getDeclaredFields()) {
            if (!Modifier.isPrivate(f.getModifiers())) {
                open.add(Modifier.toString(f.getModifiers()) + " " + f.getType() + " " + f.getName());
            }
        }
        Set<String> due = new TreeSet<>();
        for (String name : new String[] {"BAD", "NO", "FULL", "NONE"}) {
            due.add("public static final int " + name);
        }
        DUE.same("constants", open.toString(), due.toString());
    }

    private static void methods() {
        Set<String> open = new TreeSet<>();
        Set<String> openNames = new TreeSet<>();
        Set<String> closedNames = new TreeSet<>();
        for (Method m : KnobBench.class.getDeclaredMethods()) {
            if (Modifier.isPrivate(m.getModifiers())) {
                closedNames.add(m.getName());
                continue;
            }
            open.add(Modifier.toString(m.getModifiers()) + " " + m.getReturnType() + " " + signature(m));
            openNames.add(m.getName());
        }
        Set<String> due = new TreeSet<>();
        for (String s : FACE) {
            due.add("public int " + s);
        }
        DUE.same("methods", open.toString(), due.toString());
        closedNames.retainAll(openNames);
        DUE.holds("no private method bears the name of a public one", closedNames.isEmpty());
    }

    private static String signature(Method m) {
        List<String> types = new ArrayList<>();
        for (Class<?> t : m.getParameterTypes()) {
            types.add(t.getName());
        }
        return m.getName() + "(" + String.join(",", types) + ")";
    }

    private static void constructor() {
        Constructor<?>[] all = KnobBench.class.getDeclaredConstructors();
        DUE.is("constructors", all.length, 1);
        DUE.is("its parameters", all[0].getParameterCount(), 0);
        DUE.holds("it is public", Modifier.isPublic(all[0].getModifiers()));
        DUE.holds("the class is public and final", Modifier.toString(KnobBench.class.getModifiers()).equals("public final"));
    }

    private static void insides() {
        Class<?>[] inside = KnobBench.class.getDeclaredClasses();
        DUE.holds("some twelve classes at most", inside.length < 12);
        for (Class<?> c : inside) {
            int m = c.getModifiers();
            DUE.holds(c + " is static", Modifier.isStatic(m));
            DUE.holds(c + " is not public or protected", !Modifier.isPublic(m) && !Modifier.isProtected(m));
            fewFields(c);
            namesAndParameters(c);
        }
        fewFields(KnobBench.class);
        namesAndParameters(KnobBench.class);
    }

    private static void namesAndParameters(Class<?> c) {
        for (Method m : c.getDeclaredMethods()) {
            DUE.holds(c + ": " + m.getName() + " takes seven parameters at most", m.getParameterCount() <= 7);
            boolean isOfTheFace = c == KnobBench.class && Modifier.isPublic(m.getModifiers());
            for (String s : FACE) {
                boolean isAlike = s.startsWith(m.getName() + "(");
                DUE.holds(c + ": " + m.getName() + " is not named as one of the face", isOfTheFace || !isAlike);
            }
        }
    }

    private static void fewFields(Class<?> c) {
        int fields = 0;
        for (Field f : c.getDeclaredFields()) {
            boolean fixed = Modifier.isStatic(f.getModifiers());
            fields += fixed ? 0 : 1;
            DUE.holds(c + ": static " + f.getName() + " is final", !fixed || Modifier.isFinal(f.getModifiers()));
        }
        DUE.holds(c + " has some twenty fields at most", fields <= 20);
    }

    private static void source() throws IOException {
        List<String> lines = Files.readAllLines(Path.of("src/main/java/KnobBench.java"));
        String[] forbidden = {"->", "::", "catch", "throw ", "finally", "synchronized", "assert", "instanceof",
            "Exact(", "import java.io", "import java.util.Random", "currentTimeMillis", "nanoTime", "while (true)",
            "package ", "float", "double"};
        for (String line : lines) {
            String code = line.trim().startsWith("*") || line.trim().startsWith("/") ? "" : line;
            for (String word : forbidden) {
                DUE.holds("'" + word + "' is not in: " + code, !code.contains(word));
            }
            if (code.startsWith("import ")) {
                DUE.same("an import", code, "import java.util.Arrays;");
            }
        }
        newInConstructorsAlone(lines);
        DUE.holds("methods stay short: " + longest(lines), longest(lines) <= 60);
        DUE.holds("texts are plain", lines.stream().allMatch(l -> l.chars().allMatch(ch -> ch < 128)));
        DUE.holds("there is a source", lines.size() > 100);
    }

    /** All calls of a run live in one room: what is made is made with the object, no call makes more. */
    private static void newInConstructorsAlone(List<String> lines) {
        boolean isConstructor = false;
        for (String line : lines) {
            if (line.matches("( {4}| {8})\\w.*\\) \\{")) {
                isConstructor = line.trim().matches("(public )?[A-Z]\\w*\\(\\) \\{");
            }
            DUE.holds("nothing is made outside of a constructor: " + line, isConstructor || !line.contains(" new "));
        }
    }

    /** The longest stretch from a method's head to the brace that closes it, by the indents. */
    private static int longest(List<String> lines) {
        int longest = 0;
        for (int i = 0; i < lines.size(); i++) {
            String head = lines.get(i);
            if (!head.matches("( {4}| {8})[a-z].*\\) \\{")) {
                continue;
            }
            String end = head.substring(0, head.length() - head.stripLeading().length()) + "}";
            int j = i;
            while (j < lines.size() && !lines.get(j).equals(end)) {
                j++;
            }
            longest = Math.max(longest, j - i + 1);
        }
        return longest;
    }
}
