/** What the project's tests share: answers that are due, and calls that must change nothing. */
final class Checks {
    private int wrong = 0;
    private int checked = 0;

    void due(String call, long got, long want) {
        checked++;
        if (got != want) {
            wrong++;
            System.out.println(call + " answered " + got + ", due is " + want);
        }
    }

    void due(String call, boolean so) {
        due(call, so ? 1 : 0, 1);
    }

    /** A call that is refused: its answer, and that all that digest() tells is as it was. */
    interface Call {
        long answer();
    }

    void refused(LikeLastYears x, String call, long want, Call made) {
        long before = x.digest();
        due(call, made.answer(), want);
        due(call + " leaves the digest", x.digest(), before);
    }

    void end() {
        System.out.println(checked + " answers, " + wrong + " not as due");
        if (wrong != 0) {
            System.exit(1);
        }
    }

    /** The bytes of a text of up to eight letters, as letters() takes them. */
    static long word(String text) {
        long w = 0;
        for (int i = 0; i < text.length(); i++) {
            w |= (long) text.charAt(i) << (8 * i);
        }
        return w;
    }

    /** An object with features told as kind, size, kind, size, .. */
    static LikeLastYears features(int... kindsAndSizes) {
        LikeLastYears x = new LikeLastYears();
        for (int i = 0; i + 1 < kindsAndSizes.length; i += 2) {
            x.feature(kindsAndSizes[i], kindsAndSizes[i + 1]);
        }
        return x;
    }

    static LikeLastYears begun(int... kindsAndSizes) {
        LikeLastYears x = features(kindsAndSizes);
        x.begin();
        return x;
    }

    static int judge(LikeLastYears x, String text) {
        x.blank();
        x.letters(word(text));
        return x.judge();
    }
}
