import java.io.IOException;
import java.lang.reflect.Method;
import java.nio.file.Files;
import java.nio.file.Path;
import java.util.ArrayList;
import java.util.List;
import java.util.TreeMap;
import java.util.TreeSet;
import java.util.regex.Matcher;
import java.util.regex.Pattern;

/** README.md: what its example says is answered so, and its tables have every call, refusal and test. */
public final class ReadmeTest {
    private static final Path README = Path.of("README.md"), DOCUMENT = Path.of("../shared/DOC.md");
    private static final Pattern EXAMPLE = Pattern.compile("(?m)^x\\.(\\w+)\\((.*?)\\); +// (-?\\w+):");
    private static final Pattern CALL = Pattern.compile("(?m)^\\| `(\\w+)\\((.*?)\\)` \\| .+ \\| (.*)\\|$");
    private static final Pattern CONSTANT = Pattern.compile("(?m)^\\| `([A-Z]+)` \\| (-\\d+) \\|");
    private static final Pattern PROMISE = Pattern.compile("(?m)^`\\w+ (\\w+)\\((.*?)\\)`: (.*)$");
    private static final Pattern REFUSAL = Pattern.compile("\\b(UNKNOWN|OUTSIDE|STATE|FULL)\\b");
    private static final Checks c = new Checks();

    public static void main(String[] args) throws IOException, ReflectiveOperationException {
        String readme = Files.readString(README);
        example(readme);
        calls(readme, Files.readString(DOCUMENT));
        constants(readme);
        tests(readme);
        c.due("says for how many calls an object may be used", readme.contains("for 512 calls after it has been made"));
        c.due("says how the tests are run", readme.contains("\n    .ci/run\n"));
        c.end();
    }

    private static void example(String readme) throws ReflectiveOperationException {
        LikeLastYears x = new LikeLastYears();
        Matcher line = EXAMPLE.matcher(readme);
        int lines = 0;
        for (; line.find(); lines++) {
            c.due("README: " + line.group(1) + "(" + line.group(2) + ")", answer(x, line.group(1), line.group(2)), number(line.group(3)));
        }
        c.due("lines of the example", lines, 10);
    }

    private static long answer(LikeLastYears x, String name, String told) throws ReflectiveOperationException {
        for (Method m : LikeLastYears.class.getMethods()) {
            if (m.getDeclaringClass() == LikeLastYears.class && m.getName().equals(name)) {
                Object[] arguments = new Object[m.getParameterCount()];
                String[] words = told.isEmpty() ? new String[0] : told.split(", ");
                for (int i = 0; i < arguments.length; i++) {
                    long value = Long.decode(words[i].replace("L", ""));
                    arguments[i] = m.getParameterTypes()[i] == long.class ? (Object) value : (Object) (int) value;
                }
                return ((Number) m.invoke(x, arguments)).longValue();
            }
        }
        throw new IllegalStateException("no call " + name);
    }

    private static long number(String told) throws ReflectiveOperationException {
        return told.matches("-?\\d+") ? Long.parseLong(told) : LikeLastYears.class.getField(told).getInt(null);
    }

    /** The table's calls and what they may be refused with are the document's. */
    private static void calls(String readme, String document) {
        TreeMap<String, String> promised = new TreeMap<>();
        Matcher promise = PROMISE.matcher(document);
        while (promise.find()) {
            String parameters = promise.group(2).replaceAll("(int|long) ", "");
            promised.put(promise.group(1) + "(" + parameters + ")", refusals(promise.group(3)));
        }
        TreeMap<String, String> listed = new TreeMap<>();
        Matcher call = CALL.matcher(readme);
        while (call.find()) {
            listed.put(call.group(1) + "(" + call.group(2) + ")", refusals(call.group(3)));
        }
        c.due("calls of the document", promised.size(), 27);
        for (String one : promised.keySet()) {
            c.due("README has " + one + " refused with " + promised.get(one) + ", not " + listed.get(one),
                promised.get(one).equals(listed.get(one)));
        }
        c.due("calls of README", listed.size(), promised.size());
    }

    private static String refusals(String text) {
        TreeSet<String> found = new TreeSet<>();
        Matcher refusal = REFUSAL.matcher(text);
        while (refusal.find()) {
            found.add(refusal.group(1));
        }
        return found.toString();
    }

    private static void constants(String readme) throws ReflectiveOperationException {
        Matcher constant = CONSTANT.matcher(readme);
        int listed = 0;
        for (; constant.find(); listed++) {
            c.due("README: " + constant.group(1), number(constant.group(1)), Long.parseLong(constant.group(2)));
        }
        c.due("refusals in README", listed, 4);
        c.due("README has NONE", readme.contains("`NONE` (" + LikeLastYears.NONE + ")"));
    }

    private static void tests(String readme) throws IOException {
        List<String> names = new ArrayList<>();
        try (var files = Files.list(Path.of("src/test/java"))) {
            files.map(file -> file.getFileName().toString()).filter(name -> name.endsWith("Test.java")).forEach(names::add);
        }
        for (String name : names) {
            c.due("README has " + name, readme.contains("`" + name.replace(".java", "") + "`"));
        }
    }
}
