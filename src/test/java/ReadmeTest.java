import java.io.IOException;
import java.lang.reflect.InvocationTargetException;
import java.lang.reflect.Method;
import java.lang.reflect.Modifier;
import java.nio.file.Files;
import java.nio.file.Path;
import java.util.Arrays;
import java.util.List;
import java.util.Map;
import java.util.TreeMap;
import java.util.regex.Matcher;
import java.util.regex.Pattern;

/**
 * What README.md tells of the class: the calls of its example with their answers, its tables of calls, the tests
 * that it names. Runs from the project's root.
 */
public final class ReadmeTest extends Asked {
    /** A call of the example, and the first word of what stands behind it. */
    private static final Pattern EXAMPLE = Pattern.compile("^(?:x\\.(\\w+)\\(([^)]*)\\)|tell\\(x, \"([^\"]*)\"\\)); +// (\\w+|-\\d+)\\b.*$");
    /** A row of a table: a call's name, its parameters, what it does, what it answers refused. */
    private static final Pattern ROW = Pattern.compile("^\\| `(\\w+)\\(([^)]*)\\)` \\| (.*) \\| (.*) \\|$");

    public static void main(String[] args) throws IOException, IllegalAccessException {
        String readme = Files.readString(Path.of("README.md"));
        List<String> lines = Arrays.asList(readme.split("\n"));
        example(lines);
        helper(readme);
        tables(lines);
        testsNamed(readme);
        tellAndEnd();
    }

    // ---- the example --------------------------------------------------------------------------

    private static void example(List<String> lines) throws IllegalAccessException {
        promise = "README.md, the example";
        NorthCurve x = new NorthCurve();
        int calls = 0;
        for (String line : lines.subList(lines.indexOf("```java"), lines.size())) {
            if (line.equals("```")) break;
            Matcher m = EXAMPLE.matcher(line);
            if (!m.matches()) {
                due("a call with its answer: " + line, true, line.isEmpty() || line.equals("```java") || line.equals("NorthCurve x = new NorthCurve();"));
                continue;
            }
            String got = m.group(1) == null ? String.valueOf(tell(x, m.group(3))) : answer(x, faceOf(m.group(1)), m.group(2).split(", "));
            due(line + " answered " + got + ", which", true, got.equals(m.group(4)));
            calls++;
        }
        due("a long example", true, calls > 30);
    }

    /** What a call answers as the page writes it: a number, true, false, or throws. */
    private static String answer(NorthCurve x, Method call, String[] words) throws IllegalAccessException {
        Class<?>[] types = call.getParameterTypes();
        Object[] values = new Object[types.length];
        for (int k = 0; k < types.length; k++) {
            if (types[k] == boolean.class) values[k] = Boolean.parseBoolean(words[k]);
            else values[k] = Integer.parseInt(words[k]);
        }
        try {
            return String.valueOf(call.invoke(x, values));
        } catch (InvocationTargetException thrown) {
            due(call.getName() + " throws NoSuchElementException", true, thrown.getCause() instanceof java.util.NoSuchElementException);
            return "throws";
        }
    }

    private static Method faceOf(String name) {
        for (Method m : NorthCurve.class.getDeclaredMethods()) if (m.getName().equals(name) && Modifier.isPublic(m.getModifiers())) return m;
        throw new IllegalStateException("no call " + name);
    }

    // The page shows this method, letter by letter.
    static int tell(NorthCurve x, String text) {
        x.end(0);
        for (int at = 0; at < text.length(); at += 20) {
            int[] five = new int[5];
            for (int b = 0; b < 20 && at + b < text.length(); b++) five[b / 4] |= text.charAt(at + b) << 24 - b % 4 * 8;
            x.feed(five[0], five[1], five[2], five[3], five[4]);
        }
        x.end(text.length());
        return x.rules();
    }

    private static void helper(String readme) throws IOException {
        promise = "README.md, how a text is told";
        String own = Files.readString(Path.of("src/test/java/ReadmeTest.java"));
        int from = own.indexOf("    static int tell(");
        String shown = own.substring(from, own.indexOf("\n    }\n", from) + 7).replaceAll("(?m)^ {4}", "");
        due("the method tell stands there", true, readme.contains("```java\n" + shown + "```"));
        for (int length : new int[] {0, 1, 19, 20, 21, 399, 400}) {
            String text = "keep 5;".repeat(2) + " ".repeat(400);
            NorthCurve x = new NorthCurve();
            due("a text of " + length + " bytes", length >= 14 ? 2 : length == 0 ? 0 : -2, tell(x, text.substring(0, length)));
            due("all bytes are told", length == 1 ? 0 : NONE, x.place());
            due("the TAPE is empty", 0, x.count(9));
        }
    }

    // ---- the tables ---------------------------------------------------------------------------

    private static void tables(List<String> lines) throws IllegalAccessException {
        promise = "README.md, the tables of calls";
        Map<String, Integer> rows = new TreeMap<>();
        for (String line : lines) {
            Matcher m = ROW.matcher(line);
            if (!m.matches()) continue;
            rows.merge(m.group(1), 1, Integer::sum);
            Method call = faceOf(m.group(1));
            StringBuilder types = new StringBuilder();
            for (Class<?> type : call.getParameterTypes()) types.append(type.getName()).append(' ');
            due(m.group(1) + " with its parameters", true, types.toString().trim().equals(m.group(2).replaceAll(" \\w+(?:, |$)", " ").trim()));
            refused(call, m.group(4));
        }
        for (Method call : NorthCurve.class.getDeclaredMethods()) {
            if (Modifier.isPublic(call.getModifiers())) due("rows of " + call.getName(), 1, rows.getOrDefault(call.getName(), 0));
        }
        due("rows", 33, rows.size());
    }

    /** A call with numbers that are none answers what the page tells first. */
    private static void refused(Method call, String told) throws IllegalAccessException {
        String[] none = new String[call.getParameterCount()];
        Arrays.fill(none, "-1");
        String got = call.getName().equals("feed") ? fullTape() : answer(new NorthCurve(), call, none);
        String due = got.equals("-1") ? "`NONE`" : got.equals("-2000000") ? "`LOST`" : got;
        // an empty TAPE is a text too
        if (!call.getName().equals("rules")) due(call.getName() + " refused answers " + due + ", which", true, told.startsWith(due));
    }

    private static String fullTape() {
        NorthCurve x = new NorthCurve();
        for (int k = 0; k < 20; k++) x.feed(0, 0, 0, 0, 0);
        return String.valueOf(x.feed(0, 0, 0, 0, 0));
    }

    // ---- the tests ----------------------------------------------------------------------------

    private static void testsNamed(String readme) throws IOException {
        promise = "README.md, how its tests are run";
        due(".ci/run", true, readme.contains(".ci/run"));
        try (var files = Files.list(Path.of("src/test/java"))) {
            for (Path file : (Iterable<Path>) files::iterator) due(file + " is named", true, readme.contains("`" + file + "`"));
        }
    }
}
