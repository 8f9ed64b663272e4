import java.lang.reflect.Method;
import java.lang.reflect.Modifier;

/** What the project's tests share: answers that are due, and calls that must change nothing. */
final class Checks {
    private int wrong = 0;
    private int checked = 0;
    private String test = "";

    /** Runs each static method of nothing that is not private, so that none can be forgotten. */
    void each(Class<?> tests) throws ReflectiveOperationException {
        for (Method m : tests.getDeclaredMethods()) {
            if (isTest(m)) {
                test = m.getName() + ": ";
                m.invoke(null);
            }
        }
        test = "";
    }

    static boolean isTest(Method m) {
        boolean isOpen = Modifier.isStatic(m.getModifiers()) && !Modifier.isPrivate(m.getModifiers());
        return isOpen && !m.isSynthetic() && m.getParameterCount() == 0;
    }

    void due(String call, long got, long want) {
        checked++;
        if (got != want) {
            wrong++;
            System.out.println(test + call + " answered " + got + ", due is " + want);
        }
    }

    void due(String call, boolean so) {
        due(call, so ? 1 : 0, 1);
    }

    /** A call that is refused: its answer, and that all that digest() tells is as it was. */
    interface Call {
        long answer();
    }

    void refused(LikeLastYears x, String call, long want, Call made) {
        long before = x.digest();
        due(call, made.answer(), want);
        due(call + " leaves the digest", x.digest(), before);
    }

    void end() {
        System.out.println(checked + " answers, " + wrong + " not as due");
        if (wrong != 0) {
            System.exit(1);
        }
    }

    /** Beyond a least and a greatest value: one, and as far as an int goes. */
    static int[] beyond(int least, int greatest) {
        return new int[] {Integer.MIN_VALUE, least - 1, greatest + 1, Integer.MAX_VALUE};
    }

    /** What is no PORTRAIT of so many FEATURES. */
    static int[] noPortraits(int features) {
        int[] many = {1, 10, 100, 1000, 10000};
        return beyond(0, many[features] - 1);
    }

    /** The bytes of a text of up to eight letters, as letters() takes them. */
    static long word(String text) {
        long w = 0;
        for (int i = 0; i < text.length(); i++) {
            w |= (long) text.charAt(i) << (8 * i);
        }
        return w;
    }

    /** An object with features told as kind, size, kind, size, .. */
    static LikeLastYears features(int... kindsAndSizes) {
        LikeLastYears x = new LikeLastYears();
        for (int i = 0; i + 1 < kindsAndSizes.length; i += 2) {
            x.feature(kindsAndSizes[i], kindsAndSizes[i + 1]);
        }
        return x;
    }

    static LikeLastYears begun(int... kindsAndSizes) {
        LikeLastYears x = features(kindsAndSizes);
        x.begin();
        return x;
    }

    static int judge(LikeLastYears x, String text) {
        x.blank();
        x.letters(word(text));
        return x.judge();
    }

    static LikeLastYears judged(LikeLastYears x, String... texts) {
        for (String text : texts) {
            judge(x, text);
        }
        return x;
    }

    static LikeLastYears painted(LikeLastYears x, int... portraits) {
        for (int portrait : portraits) {
            x.paint(portrait);
        }
        return x;
    }

    static LikeLastYears people(LikeLastYears x, int... portraits) {
        for (int portrait : portraits) {
            x.person(portrait);
        }
        return x;
    }

    static LikeLastYears heaped(LikeLastYears x, int... portraits) {
        for (int portrait : portraits) {
            x.heap(portrait);
        }
        return x;
    }

    /** The KING as he is now, as a PORTRAIT's number. */
    static int king(LikeLastYears x) {
        int king = 0;
        for (int f = x.count(0) - 1; f >= 0; f--) {
            king = king * 10 + x.about(f, 1);
        }
        return king;
    }
}
