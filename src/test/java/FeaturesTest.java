/** Promises 1 to 8: a new object, feature, about, as, begin, apart, paint, line. */
public final class FeaturesTest {
    private static final int NONE = LikeLastYears.NONE, UNKNOWN = LikeLastYears.UNKNOWN;
    private static final int OUTSIDE = LikeLastYears.OUTSIDE, STATE = LikeLastYears.STATE, FULL = LikeLastYears.FULL;
    private static final int[] EXTREMES = {Integer.MIN_VALUE, -1, Integer.MAX_VALUE};
    private static final Checks c = new Checks();

    public static void main(String[] args) {
        newObject();
        feature();
        about();
        as();
        begin();
        apart();
        paintAges();
        paintRefusals();
        line();
        c.end();
    }

    private static void newObject() {
        LikeLastYears x = new LikeLastYears();
        for (int what = 0; what <= 7; what++) {
            c.due("new: count(" + what + ")", x.count(what), 0);
        }
        c.due("new: about(0, 0)", x.about(0, 0), UNKNOWN);
        c.due("new: as(0, 0)", x.as(0, 0), UNKNOWN);
        c.due("new: line(0)", x.line(0), UNKNOWN);
        c.due("new: told(0, 0)", x.told(0, 0), UNKNOWN);
        c.due("new: begin()", x.begin(), STATE);
        c.due("new: apart(0, 0)", x.apart(0, 0), STATE);
        c.due("new: paint(0)", x.paint(0), STATE);
        c.due("new: judge()", x.judge(), STATE);
        c.due("new: lets(0, 0)", x.lets(0, 0), STATE);
        c.due("new: strict()", x.strict(), STATE);
        c.due("new: slips(0, 0)", x.slips(0, 0), STATE);
        c.due("new: truth(0)", x.truth(0), STATE);
        c.due("new: copies(1, 0, 0)", x.copies(1, 0, 0), STATE);
        c.due("new: back(0)", x.back(0), STATE);
        c.due("new: span(0)", x.span(0), STATE);
        c.due("new: person(0)", x.person(0), STATE);
        c.due("new: gate()", x.gate(), STATE);
        c.due("new: heap(0)", x.heap(0), STATE);
        c.due("new: order(0)", x.order(0), STATE);
        c.due("new: image()", x.image(), STATE);
        c.due("new: restore()", x.restore(), STATE);
        c.due("new: fault()", x.fault(), 0);
        c.due("new: blank()", x.blank(), 0);
        long h = 619;
        for (int i = 0; i < 8; i++) {
            h *= 31;
        }
        c.due("new: digest()", x.digest(), h);
    }

    private static void feature() {
        LikeLastYears x = new LikeLastYears();
        for (int bad : new int[] {Integer.MIN_VALUE, -1, 5, Integer.MAX_VALUE}) {
            c.refused(x, "feature(" + bad + ", 0)", OUTSIDE, () -> x.feature(bad, 0));
        }
        for (int bad : new int[] {Integer.MIN_VALUE, -1, 10, Integer.MAX_VALUE}) {
            c.refused(x, "feature(0, " + bad + ")", OUTSIDE, () -> x.feature(0, bad));
        }
        c.due("feature(4, 9)", x.feature(4, 9), 0);
        c.due("feature(0, 0)", x.feature(0, 0), 1);
        c.due("feature(3, 9)", x.feature(3, 9), 2);
        c.due("feature(1, 1)", x.feature(1, 1), 3);
        c.due("count(0)", x.count(0), 4);
        c.refused(x, "a fifth feature", FULL, () -> x.feature(2, 2));
        c.refused(x, "a fifth feature of no kind", OUTSIDE, () -> x.feature(5, 2));
        c.due("begin()", x.begin(), 1909);
        c.refused(x, "full, and the line has begun", STATE, () -> x.feature(2, 2));
        c.refused(x, "begun, no kind", OUTSIDE, () -> x.feature(-1, 2));
        c.refused(x, "begun, no size", OUTSIDE, () -> x.feature(1, 10));
        LikeLastYears two = Checks.begun(0, 1, 0, 2);
        c.refused(two, "a third feature behind begin()", STATE, () -> two.feature(2, 2));
    }

    private static void about() {
        LikeLastYears x = Checks.features(0, 5, 1, 1, 3, 9, 4, 7);
        int[] kinds = {0, 1, 3, 4};
        int[] sizes = {5, 1, 9, 7};
        for (int f = 0; f < 4; f++) {
            c.due("kind of " + f, x.about(f, 0), kinds[f]);
            c.due("size of " + f, x.about(f, 1), sizes[f]);
            c.due("no line yet, " + f, x.about(f, 2), NONE);
        }
        x.begin();
        x.paint(4321);
        int[] older = {5, 0, 0, 7};
        for (int f = 0; f < 4; f++) {
            c.due("size a year older of " + f, x.about(f, 1), older[f]);
            c.due("size in the last portrait of " + f, x.about(f, 2), f + 1);
        }
        for (int bad : new int[] {Integer.MIN_VALUE, -1, 4, Integer.MAX_VALUE}) {
            c.refused(x, "about(" + bad + ", 0)", UNKNOWN, () -> x.about(bad, 0));
            c.refused(x, "about(" + bad + ", 3)", UNKNOWN, () -> x.about(bad, 3));
        }
        for (int bad : new int[] {Integer.MIN_VALUE, -1, 3, Integer.MAX_VALUE}) {
            c.refused(x, "about(0, " + bad + ")", OUTSIDE, () -> x.about(0, bad));
        }
        c.due("about(2, 0) of two features", Checks.features(0, 5, 1, 1).about(2, 0), UNKNOWN);
    }

    private static void as() {
        // which kinds (as bits) a feature of each kind can be taken as
        int[] such = {0b00001, 0b00011, 0b00101, 0b01001, 0b10101};
        for (int kind = 0; kind < 5; kind++) {
            LikeLastYears x = Checks.features(0, 0, kind, 3);
            for (int as = 0; as < 5; as++) {
                c.due("kind " + kind + " as " + as, x.as(1, as), (such[kind] >> as & 1) == 1 ? 1 : NONE);
            }
        }
        LikeLastYears x = Checks.features(4, 0, 1, 3);
        for (int bad : new int[] {Integer.MIN_VALUE, -1, 2, Integer.MAX_VALUE}) {
            c.refused(x, "as(" + bad + ", 0)", UNKNOWN, () -> x.as(bad, 0));
            c.refused(x, "as(" + bad + ", 9)", UNKNOWN, () -> x.as(bad, 9));
        }
        for (int bad : new int[] {Integer.MIN_VALUE, -1, 5, Integer.MAX_VALUE}) {
            c.refused(x, "as(0, " + bad + ")", OUTSIDE, () -> x.as(0, bad));
        }
    }

    private static void begin() {
        LikeLastYears none = new LikeLastYears();
        c.refused(none, "begin() without features", STATE, () -> none.begin());
        LikeLastYears one = Checks.features(0, 5);
        c.refused(one, "begin() with one feature", STATE, () -> one.begin());
        LikeLastYears two = Checks.features(1, 7, 3, 2);
        c.due("begin() with two", two.begin(), 27);
        c.due("count(1)", two.count(1), 1);
        c.due("line(0)", two.line(0), 27);
        c.due("the king is no older: hair", two.about(0, 1), 7);
        c.due("the king is no older: beard", two.about(1, 1), 2);
        c.refused(two, "begin() again", STATE, () -> two.begin());
        c.due("begin() with three", Checks.features(0, 0, 0, 0, 0, 0).begin(), 0);
        c.due("begin() with four", Checks.features(0, 9, 1, 9, 2, 9, 3, 9).begin(), 9999);
    }

    private static void apart() {
        LikeLastYears x = Checks.begun(0, 5, 1, 5, 2, 5, 3, 5);
        c.due("feature 0 to 9", x.apart(0, 9), 9);
        c.due("feature 9 to 3", x.apart(9, 3), 6);
        c.due("hair 2 to 8", x.apart(20, 80), 6);
        c.due("scar 4 to 5", x.apart(400, 500), 9);
        c.due("scar 4 to 4", x.apart(400, 400), 0);
        c.due("scar 0 to 9", x.apart(0, 900), 9);
        c.due("beard 9 to 0", x.apart(9000, 0), 1);
        c.due("beard 0 to 5", x.apart(0, 5000), 5);
        c.due("beard 1 to 7", x.apart(1000, 7000), 4);
        c.due("beard 7 to 2", x.apart(7000, 2000), 5);
        c.due("all together", x.apart(0, 5999), 9 + 9 + 9 + 5);
        c.due("the other way", x.apart(5999, 0), 9 + 9 + 9 + 5);
        c.due("crowns", Checks.begun(4, 1, 4, 1).apart(12, 33), 18);
        for (int bad : new int[] {Integer.MIN_VALUE, -1, 10000, Integer.MAX_VALUE}) {
            c.refused(x, "apart(" + bad + ", 0)", OUTSIDE, () -> x.apart(bad, 0));
            c.refused(x, "apart(0, " + bad + ")", OUTSIDE, () -> x.apart(0, bad));
        }
        LikeLastYears two = Checks.begun(0, 5, 1, 5);
        c.due("apart(99, 0)", two.apart(99, 0), 18);
        c.due("apart(100, 0)", two.apart(100, 0), OUTSIDE);
        c.due("apart(0, 100)", two.apart(0, 100), OUTSIDE);
        LikeLastYears three = Checks.begun(0, 5, 1, 5, 0, 1);
        c.due("apart(999, 0)", three.apart(999, 0), 27);
        c.due("apart(1000, 0)", three.apart(1000, 0), OUTSIDE);
        c.due("no line, outside", Checks.features(0, 5, 1, 5).apart(-1, 0), STATE);
    }

    private static void paintAges() {
        LikeLastYears x = Checks.begun(0, 4, 1, 2, 2, 6, 3, 8);
        c.due("first year", x.paint(8624), 1 + 1);
        int[] hair = {1, 0, 0, 0, 0};
        int[] beard = {9, 0, 1, 2, 3};
        for (int year = 0; year < 5; year++) {
            c.due("feature stays", x.about(0, 1), 4);
            c.due("hair of year " + year, x.about(1, 1), hair[year]);
            c.due("scar stays", x.about(2, 1), 6);
            c.due("beard of year " + year, x.about(3, 1), beard[year]);
            int king = beard[year] * 1000 + 600 + hair[year] * 10 + 4;
            c.due("count(7)", x.count(7), x.apart(king, x.line(x.count(1) - 1)));
            x.paint(0);
        }
        LikeLastYears crown = Checks.begun(4, 4, 3, 9);
        c.due("a crown stays, a beard goes round", crown.paint(4), 0);
        c.due("a crown is nine apart", crown.paint(15), 9);
    }

    private static void paintRefusals() {
        LikeLastYears x = Checks.begun(1, 5, 3, 5);
        for (int bad : new int[] {Integer.MIN_VALUE, -1, 100, Integer.MAX_VALUE}) {
            c.refused(x, "paint(" + bad + ")", OUTSIDE, () -> x.paint(bad));
        }
        Checks.judge(x, "00!");
        // The judge wants what does not change, and the king, who is 64 by then.
        c.refused(x, "paint(55), not let", STATE, () -> x.paint(55));
        c.refused(x, "paint(64), not let", STATE, () -> x.paint(64));
        c.due("the king is no older", x.about(0, 1), 5);
        LikeLastYears bound = Checks.begun(1, 5, 0, 5);
        Checks.judge(bound, "90!");
        c.due("bound in the second feature alone", bound.paint(59), 5);
        c.refused(bound, "unlike the king there", STATE, () -> bound.paint(69));
        fullLine();
        for (int p : EXTREMES) {
            c.due("no line, outside", Checks.features(0, 5, 1, 5).paint(p), STATE);
        }
    }

    private static void fullLine() {
        LikeLastYears x = Checks.begun(3, 0, 0, 5);
        for (int year = 1; year < 60; year++) {
            c.due("year " + year, x.paint(50 + year % 10), 0);
        }
        c.due("count(1)", x.count(1), 60);
        c.refused(x, "a full line", FULL, () -> x.paint(50));
        c.refused(x, "a full line, outside", OUTSIDE, () -> x.paint(100));
        c.due("the king is no older", x.about(0, 1), 9);
        Checks.judge(x, "00");
        c.refused(x, "a full line, not let", STATE, () -> x.paint(50));
        c.refused(x, "a full line, let", FULL, () -> x.paint(59));
    }

    private static void line() {
        LikeLastYears x = Checks.begun(0, 1, 0, 2);
        x.paint(33);
        x.paint(44);
        c.due("line(0)", x.line(0), 21);
        c.due("line(1)", x.line(1), 33);
        c.due("line(2)", x.line(2), 44);
        for (int bad : new int[] {Integer.MIN_VALUE, -1, 3, 60, Integer.MAX_VALUE}) {
            c.refused(x, "line(" + bad + ")", UNKNOWN, () -> x.line(bad));
        }
    }
}
