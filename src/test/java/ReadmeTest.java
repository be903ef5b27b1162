import java.io.IOException;
import java.lang.reflect.Method;
import java.lang.reflect.Modifier;
import java.nio.file.Files;
import java.nio.file.Path;
import java.util.regex.Matcher;
import java.util.regex.Pattern;

/** README.md's example: each of its calls answers what is written behind it; and each call of the face is told there. */
public final class ReadmeTest {
    private static final Due DUE = new Due("ReadmeTest");
    private static final Pattern CALL = Pattern.compile("bench\\.(\\w+\\(.*\\)); +// (-?\\d+): .+");
    private static final String FENCE = "```";

    public static void main(String[] args) throws IOException {
        String readme = Files.readString(Path.of("README.md"));
        example(readme);
        calls(readme);
        tests(readme);
        DUE.end();
    }

    private static void example(String readme) {
        int from = readme.indexOf(FENCE + "java");
        int to = readme.indexOf(FENCE, from + FENCE.length());
        DUE.holds("there is an example", from >= 0 && to > from);
        Run bench = new Run(DUE, "");
        int asked = 0;
        for (String line : readme.substring(Math.max(from, 0), Math.max(to, 0)).split("\n")) {
            Matcher call = CALL.matcher(line);
            DUE.holds("a call with its answer: " + line, call.matches() || !line.contains("bench."));
            if (call.matches()) {
                bench.is(call.group(1), Integer.valueOf(call.group(2)));
                asked++;
            }
        }
        DUE.holds("the example has calls", asked > 10);
    }

    private static void calls(String readme) {
        for (Method m : KnobBench.class.getDeclaredMethods()) {
            boolean isOfTheFace = Modifier.isPublic(m.getModifiers());
            DUE.holds("README.md tells " + m.getName(), !isOfTheFace || readme.contains("| `" + m.getName() + "("));
        }
    }

    private static void tests(String readme) throws IOException {
        try (var files = Files.list(Path.of("src/test/java"))) {
            files.map(f -> f.getFileName().toString().replace(".java", "")).filter(name -> name.endsWith("Test"))
                .forEach(name -> DUE.holds("README.md tells " + name, readme.contains("| `" + name + "` |")));
        }
    }
}
