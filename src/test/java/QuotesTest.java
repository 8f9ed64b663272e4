import java.io.IOException;
import java.lang.reflect.Method;
import java.nio.file.Files;
import java.nio.file.Path;
import java.util.ArrayList;
import java.util.List;
import java.util.TreeMap;
import java.util.TreeSet;
import java.util.regex.Matcher;
import java.util.regex.Pattern;
import java.util.stream.Stream;

/**
 * Looks at the remarks of the tests of edges: each test has one, which tells its promise and quotes
 * a sentence that stands there in the document; and no sentence of a promise or of the terms is
 * left without a test that quotes it.
 */
public final class QuotesTest {
    private static final Path DOCUMENT = Path.of("../shared/DOC.md"), TESTS = Path.of("src/test/java");
    private static final String TERMS = "terms";
    private static final int PROMISES = 28;
    private static final Pattern REMARK = Pattern.compile("// Promise (\\d+)(, by the terms)?: .*");
    private static final Pattern QUOTE = Pattern.compile("// \"(.*)\"");
    private static final Pattern METHOD = Pattern.compile("static void (\\w+)\\(\\) \\{");
    private static final Checks c = new Checks();

    /** What each part of the document says, and which letters of it some test has quoted. */
    private static final TreeMap<String, String> said = new TreeMap<>();
    private static final TreeMap<String, boolean[]> quoted = new TreeMap<>();
    private static final TreeSet<Integer> tested = new TreeSet<>();

    public static void main(String[] args) throws IOException, ReflectiveOperationException {
        readDocument(Files.readString(DOCUMENT));
        List<Path> files = new ArrayList<>();
        try (Stream<Path> found = Files.list(TESTS)) {
            found.filter(file -> file.toString().endsWith("EdgesTest.java")).sorted().forEach(files::add);
        }
        for (Path file : files) {
            readTests(file);
        }
        c.due("promises with a test of an edge", tested.size(), PROMISES);
        for (String part : said.keySet()) {
            lookForUnquoted(part);
        }
        c.end();
    }

    private static String flat(String text) {
        return text.replaceAll("(?m)^```.*$", " ").replaceAll("\\s+", " ");
    }

    private static void readDocument(String document) {
        String[] sections = document.split("(?m)^## ");
        String terms = "";
        for (String section : sections) {
            String title = section.lines().findFirst().orElse("");
            String text = flat(section.substring(Math.min(section.length(), title.length())));
            if (title.startsWith("Promise ")) {
                // Behind the call itself, which stands in front between ticks.
                keep(title.replaceAll("Promise (\\d+):.*", "$1"), text.replaceFirst("^ `[^`]*`: ", ""));
            }
            if (title.equals("Terms")) {
                terms = text;
            }
        }
        Matcher opening = Pattern.compile("======== 1 (FEATURES .*?):\\s+(An object .*?\\.)\n", Pattern.DOTALL).matcher(document);
        c.due("the document's beginning is found", opening.find());
        keep(TERMS, flat(opening.group(1) + " " + opening.group(2)) + terms);
        c.due("parts of the document", said.size(), PROMISES + 1);
    }

    private static void keep(String part, String text) {
        said.put(part, text);
        quoted.put(part, new boolean[text.length()]);
    }

    private static void readTests(Path file) throws IOException, ReflectiveOperationException {
        String name = file.getFileName().toString().replace(".java", "");
        TreeSet<String> remarked = new TreeSet<>();
        Matcher remark = null;
        List<String> quotes = new ArrayList<>();
        for (String line : Files.readAllLines(file)) {
            String text = line.strip();
            Matcher isRemark = REMARK.matcher(text);
            Matcher isQuote = QUOTE.matcher(text);
            Matcher isMethod = METHOD.matcher(text);
            if (isRemark.matches()) {
                remark = isRemark;
                quotes.clear();
            } else if (isQuote.matches() && remark != null) {
                quotes.add(isQuote.group(1));
            } else if (isMethod.matches() && remark != null && !quotes.isEmpty()) {
                remarked.add(isMethod.group(1));
                tested.add(Integer.valueOf(remark.group(1)));
                note(name + "." + isMethod.group(1), remark.group(2) == null ? remark.group(1) : TERMS, quotes);
                remark = null;
            } else {
                remark = null;
            }
        }
        for (Method m : Class.forName(name).getDeclaredMethods()) {
            if (Checks.isTest(m)) {
                c.due(name + "." + m.getName() + " has a remark with a promise and a quotation", remarked.contains(m.getName()));
            }
        }
    }

    private static void note(String test, String part, List<String> quotes) {
        for (String quote : quotes) {
            String text = said.getOrDefault(part, "");
            int at = text.indexOf(quote);
            c.due(test + " quotes part " + part + " of the document: " + quote, at >= 0);
            for (; at >= 0; at = text.indexOf(quote, at + 1)) {
                java.util.Arrays.fill(quoted.get(part), at, at + quote.length(), true);
            }
        }
    }

    /** Only what words say has to be quoted: the interface's headings stand in ticks and dashes. */
    private static void lookForUnquoted(String part) {
        String text = said.get(part);
        StringBuilder left = new StringBuilder();
        for (int i = 0; i < text.length(); i++) {
            left.append(quoted.get(part)[i] ? '\0' : text.charAt(i));
        }
        String rest = left.toString()
            .replaceAll("Ahead of the calls [^\0]*? the interface says: ---- (features, the line|what is told of all)?", " ")
            .replaceAll("======== \\d", " ");
        Matcher word = Pattern.compile("[A-Za-z][^\0]*").matcher(rest);
        while (word.find()) {
            c.due("quoted by some test, of part " + part + ": '" + word.group().strip() + "'", false);
        }
    }
}
