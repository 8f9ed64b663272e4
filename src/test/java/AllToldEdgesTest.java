import java.math.BigInteger;
import java.util.ArrayList;
import java.util.List;

/**
 * Promises 25 to 28 at the edges that the document names. Each test's remark tells its promise and
 * quotes the sentence; QuotesTest looks whether the document has it.
 */
public final class AllToldEdgesTest {
    private static final int UNKNOWN = LikeLastYears.UNKNOWN, OUTSIDE = LikeLastYears.OUTSIDE;
    private static final int STATE = LikeLastYears.STATE, FULL = LikeLastYears.FULL;
    private static final int FEATURE = 0, HAIR = 1, SCAR = 2, BEARD = 3, CROWN = 4;
    private static final Checks c = new Checks();

    public static void main(String[] args) throws ReflectiveOperationException {
        c.each(AllToldEdgesTest.class);
        c.end();
    }

    private static LikeLastYears plainBegun() {
        return Checks.begun(FEATURE, 5, FEATURE, 5);
    }

    /** Of everything as much as there may be. */
    private static LikeLastYears full() {
        LikeLastYears x = Checks.judged(Checks.begun(HAIR, 9, CROWN, 9, BEARD, 9, FEATURE, 9),
            "9999", "9999+9", "9999!", "9999+9!", "0000!");
        for (int year = 1; year < 60; year++) {
            x.paint(year % 2 == 0 ? 0 : 9999 - year);
        }
        for (int i = 0; i < 6; i++) {
            x.person(9999 - i);
            x.heap(1111 * i);
        }
        for (int i = 0; i < 30; i++) {
            x.truth(i % 2);
        }
        x.letters(Checks.word("~~~~~~~~"));
        x.letters(Checks.word("\1\1"));
        return x;
    }

    // ---- promise 25: image

    // Promise 25: of one PORTRAIT, of sixty; the later one stands.
    // "An IMAGE is kept (one; the latest): how many PORTRAITS THE LINE has."
    static void imageLatest() {
        LikeLastYears x = plainBegun();
        c.due("of one", x.image(), 1);
        for (int portrait = 1; portrait < 60; portrait++) {
            x.paint(portrait);
        }
        c.due("of sixty", x.image(), 60);
        long kept = x.digest();
        c.refused(x, "once more", 60, () -> x.image());
        c.due("the latest", x.restore(), 60);
        c.due("as it was", x.digest(), kept);
    }

    // Promise 25: with nothing there, with two FEATURES; an IMAGE that was kept stays.
    // "STATE: no LINE."
    static void imageWithoutLine() {
        for (LikeLastYears x : new LikeLastYears[] {new LikeLastYears(), Checks.features(FEATURE, 5, FEATURE, 5)}) {
            c.refused(x, "image()", STATE, () -> x.image());
            c.refused(x, "restore() of none", STATE, () -> x.restore());
        }
        LikeLastYears x = Checks.features(FEATURE, 5, FEATURE, 5);
        x.image();
        x.begin();
        c.refused(x, "the refused one is no image", STATE, () -> x.restore());
    }

    // Promise 25, by the terms: each of the four, and nothing else.
    // "An IMAGE keeps the KING, THE LINE, THE HEAP, PEOPLE."
    static void imageKeepsFour() {
        LikeLastYears x = Checks.begun(HAIR, 9, BEARD, 9);
        Checks.heaped(Checks.people(Checks.painted(x, 10), 11), 12);
        x.image();
        Checks.heaped(Checks.people(Checks.painted(x, 20, 30), 21, 22), 23, 24, 25);
        Checks.judge(x, "99");
        x.truth(0);
        x.letters(Checks.word("99+"));
        x.restore();
        c.due("the king", Checks.king(x), 8);
        c.due("the line", x.count(1), 2);
        c.due("line(1)", x.line(1), 10);
        c.due("line(2)", x.line(2), UNKNOWN);
        c.due("people", x.count(3), 1);
        c.due("the heap", x.count(4), 1);
        c.due("judges stay", x.count(2), 1);
        c.due("the page stays", x.count(5), 3);
        c.due("truth() was done", x.count(6), 1);
    }

    // ---- promise 26: restore

    // Promise 26: to nothing in THE HEAP, from as much as there may be; other ones come then; twice.
    // "It goes on from the IMAGE: how many PORTRAITS THE LINE has."
    static void restoreFromFull() {
        LikeLastYears x = Checks.begun(HAIR, 9, BEARD, 9);
        x.image();
        long kept = x.digest();
        for (int time = 0; time < 2; time++) {
            for (int portrait = 1; portrait < 60; portrait++) {
                x.paint(portrait);
            }
            Checks.heaped(Checks.people(x, 1, 2, 3, 4, 5, 6), 1, 2, 3, 4, 5, 6);
            c.due("a full line", x.paint(0), FULL);
            c.due("all people", x.person(0), FULL);
            c.due("a full heap", x.heap(0), FULL);
            c.due("restore()", x.restore(), 1);
            c.due("as it was", x.digest(), kept);
        }
        c.due("another portrait", x.paint(77), 1 + 3);
        c.due("another person", x.person(88), 0);
        c.due("another heap", x.heap(66), 1);
        c.due("line(1)", x.line(1), 77);
        c.due("gate()", x.gate(), 0);
        c.due("order(10)", x.order(10), 0);
    }

    // Promise 26: with nothing there, with FEATURES, with a LINE, and once one is kept.
    // "STATE: none was kept."
    static void restoreOfNone() {
        LikeLastYears x = new LikeLastYears();
        c.refused(x, "nothing there", STATE, () -> x.restore());
        x.feature(FEATURE, 5);
        x.feature(FEATURE, 5);
        c.refused(x, "features", STATE, () -> x.restore());
        x.begin();
        c.refused(x, "a line", STATE, () -> x.restore());
        x.paint(56);
        c.refused(x, "a longer line", STATE, () -> x.restore());
        x.image();
        c.refused(x, "at once", 2, () -> x.restore());
        c.refused(x, "once more", 2, () -> x.restore());
    }

    // ---- promise 27: count

    private static void counts(String of, LikeLastYears x, int... due) {
        for (int what = 0; what < 8; what++) {
            c.due(of + ": count(" + what + ")", x.count(what), due[what]);
        }
    }

    // Promise 27: nothing there, and as much of each as there may be.
    // "How many: 0 FEATURES, 1 PORTRAITS of THE LINE, 2 JUDGES, 3 PEOPLE, 4 PORTRAITS in THE HEAP, 5 letters of THE PAGE, 6 how often truth() was done,"
    static void countNoneToMost() {
        counts("nothing", new LikeLastYears(), 0, 0, 0, 0, 0, 0, 0, 0);
        counts("a bare line", plainBegun(), 2, 1, 0, 0, 0, 0, 0, 0);
        // He is 9890 by then, and 9940 is painted: another crown, and one of the beard.
        counts("full", full(), 4, 60, 5, 6, 6, 10, 30, 9 + 1);
    }

    // Promise 27: no LINE; the KING's own; as far as may be.
    // "7 how far the KING and the last PORTRAIT are APART (0: no LINE)."
    static void countHowFar() {
        c.due("nothing there", new LikeLastYears().count(7), 0);
        c.due("no line", Checks.features(FEATURE, 5, HAIR, 9).count(7), 0);
        c.due("his own", Checks.begun(FEATURE, 5, HAIR, 9).count(7), 0);
        LikeLastYears far = Checks.begun(FEATURE, 0, SCAR, 0, CROWN, 0, HAIR, 0);
        c.due("as far as may be", Checks.painted(far, 9999).count(7), 36);
        c.due("by the king as he is", Checks.painted(Checks.begun(HAIR, 9, BEARD, 9), 99).count(7), 1 + 1);
    }

    // Promise 27: below the least, above the greatest.
    // "OUTSIDE."
    static void countOutside() {
        LikeLastYears none = new LikeLastYears();
        LikeLastYears x = plainBegun();
        for (int what : Checks.beyond(0, 7)) {
            c.refused(none, "count(" + what + ") of nothing", OUTSIDE, () -> none.count(what));
            c.refused(x, "count(" + what + ")", OUTSIDE, () -> x.count(what));
        }
    }

    // ---- promise 28: digest

    /** The numbers of which a digest is made, as the public calls tell them. */
    private static List<Integer> numbers(LikeLastYears x, String page) {
        List<Integer> all = new ArrayList<>();
        for (int f = 0; f < x.count(0); f++) {
            for (int what = 0; what <= 2; what++) {
                all.add(x.about(f, what));
            }
        }
        for (int k = 0; k < x.count(1); k++) {
            all.add(x.line(k));
        }
        for (int j = 0; j < x.count(2); j++) {
            for (int what = 0; what <= 5; what++) {
                all.add(x.told(j, what));
            }
        }
        if (x.count(1) > 0) {
            all.add(x.strict());
            all.add(x.gate());
            all.add(x.order(0));
            for (int what = 10; what <= 15; what++) {
                all.add(x.order(what));
            }
            all.add(x.span(2));
            all.add(x.slips(x.line(0), Checks.king(x)));
        }
        for (char letter : page.toCharArray()) {
            all.add((int) letter);
        }
        for (int what = 0; what <= 7; what++) {
            all.add(x.count(what));
        }
        return all;
    }

    private static long wrapped(List<Integer> numbers) {
        BigInteger h = BigInteger.valueOf(619);
        for (int number : numbers) {
            h = h.multiply(BigInteger.valueOf(31)).add(BigInteger.valueOf(number));
        }
        return h.longValue();
    }

    // Promise 28: the fewest numbers, which need no wrapping, and so many that it goes round many times.
    // "h is 619, then for each of these numbers, in order, 31 times h, and it (as longs, wrapping):"
    static void digestWraps() {
        LikeLastYears none = new LikeLastYears();
        c.due("eight times nothing", none.digest(), 619L * 31 * 31 * 31 * 31 * 31 * 31 * 31 * 31);
        LikeLastYears x = full();
        List<Integer> numbers = numbers(x, "~~~~~~~~\1\1");
        c.due("how many numbers", numbers.size(), 4 * 3 + 60 + 5 * 6 + 11 + 10 + 8);
        c.due("going round", x.digest(), wrapped(numbers));
    }

    // Promise 28: no FEATURE, one, four without a LINE, and with one.
    // "of each FEATURE what about() tells for 0 to 2; each PORTRAIT of THE LINE; of each JUDGE what told() tells for 0 to 5;"
    static void digestOfFeaturesLineJudges() {
        LikeLastYears x = new LikeLastYears();
        int[] kinds = {FEATURE, SCAR, BEARD, CROWN};
        for (int kind : kinds) {
            c.due("without a line", x.digest(), wrapped(numbers(x, "")));
            x.feature(kind, 9);
        }
        c.due("four, without a line", x.digest(), wrapped(List.of(0, 9, -1, 2, 9, -1, 3, 9, -1, 4, 9, -1, // features
            4, 0, 0, 0, 0, 0, 0, 0)));
        x.begin();
        c.due("with a line", x.digest(), wrapped(numbers(x, "")));
        x.paint(0);
        c.due("with a longer one", x.digest(), wrapped(numbers(x, "")));
        Checks.judged(x, "0000", "9999+9!");
        c.due("with judges", x.digest(), wrapped(numbers(x, "")));
    }

    // Promise 28: a bare LINE, on which there is nothing to find; no SLIPS by any number.
    // "with a LINE STRICT, AT THE GATE, what order() tells for 0 and 10 to 15, SPAN of 2, SLIPS from the first PORTRAIT to the KING as he is;"
    static void digestOfWhatIsFound() {
        c.due("a bare line", plainBegun().digest(), wrapped(List.of(0, 5, 5, 0, 5, 5, 55, // features, the line
            -1, -1, 0, -1, -1, -1, -1, -1, -1, 13, 0, // what is found
            2, 1, 0, 0, 0, 0, 0, 0)));
        LikeLastYears x = Checks.judged(Checks.painted(Checks.begun(HAIR, 9, FEATURE, 9), 98), "00");
        Checks.heaped(Checks.people(x, 97, 98), 1, 2, 3, 4, 5, 6);
        c.due("no slips", x.digest(), wrapped(List.of(1, 8, 8, 0, 9, 9, 99, 98, 0, 0, -1, -1, -1, 0, // and a judge
            0, 1, 5, 0, 1, 2, 3, 4, 5, 8, -1, // what is found
            2, 2, 1, 2, 6, 0, 0, 0)));
        c.due("as the calls tell it", x.digest(), wrapped(numbers(x, "")));
    }

    // Promise 28: an empty PAGE, the least and the greatest letter, ten of them; how often truth() was done.
    // "letters of THE PAGE; what count() tells for 0 to 7."
    static void digestOfPageAndCounts() {
        LikeLastYears x = new LikeLastYears();
        c.due("an empty page", x.digest(), wrapped(List.of(0, 0, 0, 0, 0, 0, 0, 0)));
        x.letters(Checks.word("\1~"));
        c.due("two letters", x.digest(), wrapped(List.of(1, 126, 0, 0, 0, 0, 0, 2, 0, 0)));
        x.letters(Checks.word("12345678"));
        c.due("ten letters", x.digest(), wrapped(numbers(x, "\1~12345678")));
        x.blank();
        LikeLastYears y = plainBegun();
        long before = y.digest();
        y.truth(0);
        c.due("truth() was done", y.digest(), before + 31);
        c.due("digest() changes nothing", y.digest(), before + 31);
    }

    // ---- what all calls share

    // Promise 28, by the terms: every refused call on an object that is full leaves all that it tells.
    // "Refusals, of several the first as told by each call: UNKNOWN (a number names nothing), OUTSIDE (it is not as told), STATE (as told), FULL; they change nothing."
    static void refusalsChangeNothing() {
        LikeLastYears x = full();
        x.image();
        c.refused(x, "feature", STATE, () -> x.feature(0, 0));
        c.refused(x, "begin", STATE, () -> x.begin());
        c.refused(x, "paint", FULL, () -> x.paint(9940));
        c.refused(x, "line", UNKNOWN, () -> x.line(60));
        c.refused(x, "letters", FULL, () -> x.letters(1L));
        c.refused(x, "letters", OUTSIDE, () -> x.letters(-1L));
        c.refused(x, "judge", STATE, () -> x.judge());
        c.refused(x, "told", UNKNOWN, () -> x.told(5, 0));
        c.refused(x, "truth", STATE, () -> x.truth(0));
        c.refused(x, "person", FULL, () -> x.person(0));
        c.refused(x, "heap", FULL, () -> x.heap(0));
        long before = x.digest();
        c.due("restore()", x.restore(), 60);
        c.due("the image is as all is", x.digest(), before);
    }
}
