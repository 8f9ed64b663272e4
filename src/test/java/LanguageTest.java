import java.io.IOException;
import java.lang.reflect.Constructor;
import java.lang.reflect.Field;
import java.lang.reflect.Method;
import java.lang.reflect.Modifier;
import java.nio.file.Files;
import java.nio.file.Path;
import java.util.ArrayList;
import java.util.List;
import java.util.Set;
import java.util.TreeSet;
import java.util.regex.Matcher;
import java.util.regex.Pattern;

/** The public face of the document, and rules of LANGUAGE.md that can be seen from outside. */
public final class LanguageTest {
    private static final String SOURCE = "src/main/java/LikeLastYears.java";
    private static final String DOCUMENT = "../shared/DOC.md";
    private static final Pattern METHOD = Pattern.compile("(?m)^    public (int|long) (\\w+)\\((.*)\\);$");
    private static final Pattern CONSTANT = Pattern.compile("\\b([A-Z]+) = (-\\d+)");
    private static final Checks c = new Checks();

    public static void main(String[] args) throws IOException, ReflectiveOperationException {
        String face = face(Files.readString(Path.of(DOCUMENT)));
        methods(face);
        constants(face);
        classes();
        text(Files.readString(Path.of(SOURCE)));
        room();
        c.end();
    }

    /** The lines of Java that the document has under "The public face". */
    private static String face(String document) {
        Matcher found = Pattern.compile("(?s)## The public face\\s+```java\n(.*?)```").matcher(document);
        c.due("the document has a public face", found.find());
        return found.group(1);
    }

    private static Set<String> faceMethods(String face) {
        Set<String> methods = new TreeSet<>();
        Matcher m = METHOD.matcher(face);
        while (m.find()) {
            methods.add(m.group(1) + " " + m.group(2) + "(" + m.group(3).replaceAll("(int|long) \\w+", "$1") + ")");
        }
        c.due("methods of the face", methods.size(), 27);
        return methods;
    }

    private static String told(Method m) {
        List<String> parameters = new ArrayList<>();
        for (Class<?> p : m.getParameterTypes()) {
            parameters.add(p.getSimpleName());
        }
        return m.getReturnType().getSimpleName() + " " + m.getName() + "(" + String.join(", ", parameters) + ")";
    }

    private static void methods(String face) {
        Set<String> open = new TreeSet<>();
        Set<String> openNames = new TreeSet<>();
        for (Method m : LikeLastYears.class.getDeclaredMethods()) {
            if (!Modifier.isPrivate(m.getModifiers()) && !m.isSynthetic()) {
                c.due(told(m) + " is public", Modifier.isPublic(m.getModifiers()) && !Modifier.isStatic(m.getModifiers()));
                open.add(told(m));
                openNames.add(m.getName());
            }
        }
        c.due("the methods are the document's", open.equals(faceMethods(face)));
        List<Class<?>> all = new ArrayList<>(List.of(LikeLastYears.class.getDeclaredClasses()));
        all.add(LikeLastYears.class);
        for (Class<?> k : all) {
            for (Method m : k.getDeclaredMethods()) {
                boolean own = k == LikeLastYears.class && Modifier.isPublic(m.getModifiers());
                c.due(k.getSimpleName() + "." + m.getName() + " has its own name", own || !openNames.contains(m.getName()));
                c.due(told(m) + " takes seven at most", m.getParameterCount() <= 7);
            }
        }
        Constructor<?>[] made = LikeLastYears.class.getDeclaredConstructors();
        c.due("constructors", made.length, 1);
        c.due("a public constructor of nothing", Modifier.isPublic(made[0].getModifiers()) && made[0].getParameterCount() == 0);
        c.due("the class is public and final", LikeLastYears.class.getModifiers(), Modifier.PUBLIC | Modifier.FINAL);
    }

    private static void constants(String face) throws ReflectiveOperationException {
        Set<String> open = new TreeSet<>();
        for (Field f : LikeLastYears.class.getDeclaredFields()) {
            if (!Modifier.isPrivate(f.getModifiers())) {
                open.add(f.getName());
                c.due(f.getName() + " is a constant of int", Modifier.toString(f.getModifiers()).equals("public static final")
                    && f.getType() == int.class);
            }
        }
        Matcher constant = CONSTANT.matcher(face);
        Set<String> due = new TreeSet<>();
        while (constant.find()) {
            due.add(constant.group(1));
            if (open.contains(constant.group(1))) {
                c.due(constant.group(1), LikeLastYears.class.getField(constant.group(1)).getInt(null), Integer.parseInt(constant.group(2)));
            }
        }
        c.due("constants of the face", due.size(), 5);
        c.due("the constants are the document's", open.equals(due));
    }

    private static void classes() {
        Class<?>[] inside = LikeLastYears.class.getDeclaredClasses();
        c.due("some twelve classes at most", inside.length + 1 <= 12);
        for (Class<?> k : inside) {
            c.due(k.getSimpleName() + " is static", Modifier.isStatic(k.getModifiers()));
            c.due(k.getSimpleName() + " is not open", !Modifier.isPublic(k.getModifiers()) && !Modifier.isProtected(k.getModifiers()));
            countFields(k);
        }
        countFields(LikeLastYears.class);
    }

    private static void countFields(Class<?> k) {
        int many = 0;
        for (Field f : k.getDeclaredFields()) {
            boolean isStatic = Modifier.isStatic(f.getModifiers());
            many += isStatic ? 0 : 1;
            c.due(f.getName() + " is final, if it is static", !isStatic || Modifier.isFinal(f.getModifiers()));
        }
        c.due(k.getSimpleName() + " has some twenty fields at most", many <= 20);
    }

    private static void text(String source) {
        String code = source.replaceAll("(?s)/\\*.*?\\*/", " ").replaceAll("//[^\n]*", " ");
        for (String word : List.of("throw", "throws", "try", "catch", "finally", "synchronized", "assert", "import", "package",
            "protected", "lambda", "var", "Random", "Thread", "Object", "hashCode", "toString")) {
            c.due("no " + word, !code.matches("(?s).*\\b" + word + "\\b.*"));
        }
        for (String sign : List.of("->", "::", "@", "Exact", "][", "Exception")) {
            c.due("no " + sign, !code.contains(sign));
        }
        c.due("signs 1 to 126 alone", source.chars().allMatch(sign -> sign == '\n' || (sign >= ' ' && sign <= '~')));
        for (String library : List.of("Math", "System", "Integer", "Long", "Arrays")) {
            for (String part : code.split("\\b" + library + "\\.")) {
                String name = part.replaceAll("(?s)^(\\w*).*", "$1");
                c.due("library " + library + "." + name, part == code || part.equals(code.split("\\b" + library + "\\.")[0])
                    || Set.of("abs", "min", "max", "floorMod", "bitCount", "arraycopy").contains(name));
            }
        }
    }

    /** A full run makes one object and what its constructor and feature() make, and no more. */
    private static void room() {
        LikeLastYears x = Checks.begun(3, 5, 3, 5, 3, 5, 3, 5);
        warm(x);
        com.sun.management.ThreadMXBean threads =
            (com.sun.management.ThreadMXBean) java.lang.management.ManagementFactory.getThreadMXBean();
        threads.getCurrentThreadAllocatedBytes();
        long before = threads.getCurrentThreadAllocatedBytes();
        warm(x);
        long made = threads.getCurrentThreadAllocatedBytes() - before;
        c.due("calls make nothing, but made " + made + " bytes", made < 1000);
    }

    private static void warm(LikeLastYears x) {
        long word = Checks.word("1234+5!");
        for (int i = 0; i < 10; i++) {
            x.letters(word);
            x.fault();
            x.judge();
            x.blank();
            x.paint(5555);
            x.truth(i % 2);
            x.slips(0, 5555);
            x.copies(60, i, i % 4);
            x.person(i);
            x.heap(i);
            x.gate();
            x.order(10);
            x.strict();
            x.span(3);
            x.back(0);
            x.image();
            x.restore();
            x.digest();
        }
    }
}
