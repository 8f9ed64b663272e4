import java.math.BigInteger;

/** Promises 16 to 20: slips, truth, copies, back, span. */
public final class WouldBeTest {
    private static final int NONE = LikeLastYears.NONE;
    private static final int OUTSIDE = LikeLastYears.OUTSIDE, STATE = LikeLastYears.STATE;
    private static final int[] NO_TWO_FEATURES = {Integer.MIN_VALUE, -1, 100, Integer.MAX_VALUE};
    private static final Checks c = new Checks();

    public static void main(String[] args) {
        slips();
        slipsLet();
        slipsRefused();
        truthSoon();
        truthByWaiting();
        truthWithJudges();
        truthThirtyTimes();
        copiesDraws();
        copiesLet();
        copiesRefused();
        back();
        span();
        c.end();
    }

    private static void slips() {
        LikeLastYears x = Checks.begun(0, 5, 1, 5, 2, 5, 3, 5);
        c.due("none to itself", x.slips(5555, 5555), 0);
        c.due("a feature", x.slips(0, 9), 9);
        c.due("a hair", x.slips(90, 0), 9);
        c.due("a scar, one by one", x.slips(200, 500), 3);
        c.due("a beard from 9 to 0", x.slips(9000, 0), 1);
        c.due("a beard from 0 to 9", x.slips(0, 9000), 1);
        c.due("a beard, the shorter way", x.slips(2000, 8000), 4);
        c.due("a beard, five", x.slips(0, 5000), 5);
        c.due("20 in all", x.slips(0, 992), 20);
        c.due("20 in all with a beard", x.slips(0, 9991), 20);
        c.due("21 in all", x.slips(0, 993), NONE);
        c.due("far above", x.slips(0, 5999), NONE);
    }

    private static void slipsLet() {
        LikeLastYears still = Checks.begun(0, 5, 0, 5);
        Checks.judge(still, "10");
        c.due("the first feature may", still.slips(50, 59), 9);
        c.due("the second may not", still.slips(50, 60), NONE);
        c.due("none needs no judge", still.slips(50, 50), 0);

        LikeLastYears scar = Checks.begun(2, 5, 0, 5);
        Checks.judge(scar, "89");
        c.due("a scar's slip is 9 apart", scar.slips(55, 56), NONE);
        LikeLastYears tens = Checks.begun(2, 5, 0, 5);
        Checks.judge(tens, "99+2");
        c.due("and above 6", tens.slips(55, 56), NONE);
        c.due("the other feature's is not", tens.slips(55, 65), 1);

        // A slip of the first feature wants the second one like the king's, and the other way round.
        LikeLastYears x = Checks.begun(0, 5, 0, 5);
        Checks.judge(x, "01!");
        Checks.judge(x, "11");
        Checks.judge(x, "10!");
        c.due("through the king", x.slips(56, 65), 2);
        c.due("and back", x.slips(65, 56), 2);
        c.due("the longer way through him", x.slips(58, 75), 5);
        c.due("both unlike him", x.slips(56, 66), NONE);
        c.due("from both unlike him", x.slips(66, 56), NONE);
        c.due("nothing has changed", x.count(1), 1);
    }

    private static void slipsRefused() {
        LikeLastYears x = Checks.begun(0, 5, 0, 5);
        for (int bad : NO_TWO_FEATURES) {
            c.refused(x, "slips(" + bad + ", 0)", OUTSIDE, () -> x.slips(bad, 0));
            c.refused(x, "slips(0, " + bad + ")", OUTSIDE, () -> x.slips(0, bad));
            c.refused(x, "slips of the same", OUTSIDE, () -> x.slips(bad, bad));
        }
        c.due("no line, outside", Checks.features(0, 5, 0, 5).slips(-1, 0), STATE);
    }

    private static void truth(String of, LikeLastYears x, int years, int first) {
        int done = x.count(6);
        long before = x.digest();
        c.due(of + ", years", x.truth(0), years);
        c.due(of + ", first", x.truth(1), first);
        c.due(of + ", done", x.count(6), done + 2);
        c.due(of + ", nothing else changed", x.digest(), before + 2 * 31);
    }

    private static void truthSoon() {
        truth("like him now", Checks.begun(1, 5, 3, 5), 0, NONE);
        truth("the first unlike", Checks.painted(Checks.begun(0, 5, 0, 5), 59), 1, 0);
        truth("the second unlike", Checks.painted(Checks.begun(0, 5, 0, 5), 95), 1, 1);
        truth("both unlike", Checks.painted(Checks.begun(0, 5, 0, 5), 99), 2, 0);
        truth("four unlike", Checks.painted(Checks.begun(0, 5, 0, 5, 2, 5, 4, 5), 9999), 4, 0);
        // king 65 now and 55 then
        truth("a hair", Checks.painted(Checks.begun(0, 5, 1, 7), 75), 1, 1);
        // the hair must be last, for he loses more of it
        truth("a hair last", Checks.painted(Checks.begun(1, 7, 0, 5), 97), 2, 1);
        truth("a beard last", Checks.painted(Checks.begun(3, 7, 2, 5), 97), 2, 1);
        // king 60 now, 50 in the first year: the portrait is like him by itself
        truth("by itself", Checks.painted(Checks.begun(0, 0, 1, 7), 50), 1, 0);
    }

    private static void truthByWaiting() {
        // two hairs, one a year: not before both are gone, 8 years on, and one year more
        truth("two hairs", Checks.painted(Checks.begun(1, 9, 1, 9), 99), 9, 0);
        // beards of 66 now are 55 in 9 years
        truth("two beards", Checks.painted(Checks.begun(3, 5, 3, 5), 55), 9, 0);
        // the hair of 8 is gone in 8 years; the beard of 1 is 3 in 2 years and in 12, 4 in 3 and in 13
        for (String text : new String[] {"00", "00!"}) {
            LikeLastYears in12 = Checks.painted(Checks.begun(1, 9, 3, 0), 30);
            Checks.judge(in12, text);
            truth("in 12 by " + text, in12, 12, NONE);
            LikeLastYears in13 = Checks.painted(Checks.begun(1, 9, 3, 0), 40);
            Checks.judge(in13, text);
            truth("in 13 by " + text, in13, NONE, NONE);
        }
    }

    private static void truthWithJudges() {
        LikeLastYears far = Checks.painted(Checks.begun(0, 5, 0, 5), 59);
        Checks.judge(far, "39");
        truth("too far apart", far, NONE, NONE);
        LikeLastYears near = Checks.painted(Checks.begun(0, 5, 0, 5), 59);
        Checks.judge(near, "49");
        truth("near enough", near, 1, 0);
        LikeLastYears tens = Checks.painted(Checks.begun(0, 5, 0, 5), 59);
        Checks.judge(tens, "99+1");
        truth("too far in all", tens, NONE, NONE);
        // The first is not let while the second, where the judge wants the king, is unlike him.
        LikeLastYears bound = Checks.painted(Checks.begun(0, 5, 0, 5), 99);
        Checks.judge(bound, "90!");
        Checks.judge(bound, "99");
        truth("the second cannot be", bound, NONE, NONE);
        LikeLastYears second = Checks.painted(Checks.begun(0, 5, 0, 5), 99);
        Checks.judge(second, "90!");
        Checks.judge(second, "99");
        Checks.judge(second, "09");
        truth("the second first", second, 2, 1);
        // Beard 6 now, 5 painted, one apart: in 8 years he has 4. What is like him may become so.
        LikeLastYears wait = Checks.painted(Checks.begun(3, 5, 0, 5), 55);
        Checks.judge(wait, "11");
        truth("a feature that is so already", wait, 8, 1);
        // The scar is like his, but the judge wants his hair, too, which is gone in two years.
        LikeLastYears none = Checks.painted(Checks.begun(1, 3, 2, 5), 50);
        Checks.judge(none, "08!");
        truth("none in the first year", none, 2, NONE);
    }

    private static void truthThirtyTimes() {
        LikeLastYears x = Checks.painted(Checks.begun(0, 5, 0, 5), 59);
        c.refused(x, "truth(2)", OUTSIDE, () -> x.truth(2));
        for (int i = 1; i <= 30; i++) {
            c.due("truth() time " + i, x.truth(i % 2), i % 2 == 0 ? 1 : 0);
            c.due("count(6)", x.count(6), i);
        }
        for (int bad : new int[] {Integer.MIN_VALUE, -1, 2, Integer.MAX_VALUE}) {
            c.refused(x, "truth(" + bad + ")", OUTSIDE, () -> x.truth(bad));
        }
        c.refused(x, "truth(0), once more", STATE, () -> x.truth(0));
        c.refused(x, "truth(1), once more", STATE, () -> x.truth(1));
        c.due("no line, outside", Checks.features(0, 5, 0, 5).truth(2), STATE);
    }

    private static int next(int seed) {
        return BigInteger.valueOf(1103515245).multiply(BigInteger.valueOf(seed)).add(BigInteger.valueOf(12345))
            .mod(BigInteger.TWO.pow(31)).intValueExact();
    }

    private static void copiesDraws() {
        LikeLastYears x = Checks.begun(0, 5, 0, 5, 0, 5);
        for (int seed : new int[] {0, 1, 2, 65535, 65536, 1103515245, Integer.MAX_VALUE}) {
            int first = next(seed);
            int second = next(first);
            int[] unit = {1, 10, 100};
            int by = unit[(first >> 16) % 3] * ((second >> 16) % 2 == 1 ? 1 : -1);
            c.due("copies(1, " + seed + ", 0)", x.copies(1, seed, 0), 555 + by);
            c.due("copies(1, " + seed + ", 1)", x.copies(1, seed, 1), 1);
            c.due("copies(1, " + seed + ", 2)", x.copies(1, seed, 2), 1);
            c.due("copies(1, " + seed + ", 3)", x.copies(1, seed, 3), second);
            int s = seed;
            for (int i = 0; i < 120; i++) {
                s = next(s);
            }
            c.due("copies(60, " + seed + ", 3)", x.copies(60, seed, 3), s);
        }
        c.due("nothing is painted", x.count(1), 1);
    }

    /** A seed whose first year has that draw of two features and that draw of less or more. */
    private static int seedOf(int feature, int more) {
        for (int seed = 0; seed < 1000; seed++) {
            int first = next(seed);
            if ((first >> 16) % 2 == feature && (next(first) >> 16) % 2 == more) {
                return seed;
            }
        }
        return NONE;
    }

    /** Of a second feature that begins at 0 and has no judges; a first one that is a beard always has a slip. */
    private static int yearsWithoutSlip(int years, int seed) {
        int without = 0;
        int size = 0;
        int s = seed;
        for (int year = 0; year < years; year++) {
            s = next(s);
            boolean isSecond = (s >> 16) % 2 == 1;
            s = next(s);
            int to = size + ((s >> 16) % 2 == 1 ? 1 : -1);
            if (isSecond && (to < 0 || to > 9)) {
                without++;
            } else if (isSecond) {
                size = to;
            }
        }
        return without;
    }

    private static void copiesLet() {
        LikeLastYears edge = Checks.begun(3, 9, 1, 9);
        c.due("a beard from 9 on", edge.copies(1, seedOf(0, 1), 0), 90);
        c.due("he has it, too, and a hair less", edge.copies(1, seedOf(0, 1), 1), 1);
        c.due("a beard less", edge.copies(1, seedOf(0, 0), 0), 98);
        c.due("two apart, and a hair less", edge.copies(1, seedOf(0, 0), 1), 3);
        c.due("a hair from 9 on", edge.copies(1, seedOf(1, 1), 0), 99);
        c.due("no slip of a hair from 9 on", edge.copies(1, seedOf(1, 1), 2), 0);
        c.due("a beard from 9 on is a slip", edge.copies(1, seedOf(0, 1), 2), 1);
        c.due("a hair less, as of the king", edge.copies(1, seedOf(1, 0), 1), 1);
        LikeLastYears low = Checks.begun(3, 0, 0, 0);
        c.due("a feature below 0", low.copies(1, seedOf(1, 0), 0), 0);
        c.due("no slip of a feature below 0", low.copies(1, seedOf(1, 0), 2), 0);
        c.due("a beard below 0", low.copies(1, seedOf(0, 0), 0), 9);
        c.due("a beard below 0 is a slip", low.copies(1, seedOf(0, 0), 2), 1);
        c.due("some years without a slip", low.copies(60, 0, 2), 60 - yearsWithoutSlip(60, 0));
        LikeLastYears marked = Checks.begun(2, 9, 4, 0);
        c.due("no slip of a scar from 9 on", marked.copies(1, seedOf(0, 1), 2), 0);
        c.due("a scar less", marked.copies(1, seedOf(0, 0), 2), 1);
        c.due("no slip of a crown below 0", marked.copies(1, seedOf(1, 0), 2), 0);
        c.due("a crown more", marked.copies(1, seedOf(1, 1), 2), 1);

        LikeLastYears x = Checks.begun(0, 5, 1, 5);
        Checks.judge(x, "10");
        c.due("let", x.copies(1, seedOf(0, 1), 0), 56);
        c.due("let, counted", x.copies(1, seedOf(0, 1), 2), 1);
        c.due("not let", x.copies(1, seedOf(1, 1), 0), 55);
        c.due("not let, not counted", x.copies(1, seedOf(1, 1), 2), 0);
        c.due("the king is older all the same", x.copies(1, seedOf(1, 1), 1), 1);
        LikeLastYears bound = Checks.begun(0, 5, 1, 5);
        Checks.judge(bound, "90!");
        c.due("let by the king as he is then", bound.copies(1, seedOf(0, 1), 2), 0);
    }

    private static void copiesRefused() {
        LikeLastYears x = Checks.begun(0, 5, 1, 5);
        for (int bad : new int[] {Integer.MIN_VALUE, -1, 0, 61, Integer.MAX_VALUE}) {
            c.refused(x, "copies(" + bad + ", 0, 0)", OUTSIDE, () -> x.copies(bad, 0, 0));
        }
        for (int bad : new int[] {Integer.MIN_VALUE, -1}) {
            c.refused(x, "copies(1, " + bad + ", 0)", OUTSIDE, () -> x.copies(1, bad, 0));
        }
        for (int bad : new int[] {Integer.MIN_VALUE, -1, 4, Integer.MAX_VALUE}) {
            c.refused(x, "copies(1, 0, " + bad + ")", OUTSIDE, () -> x.copies(1, 0, bad));
        }
        c.refused(x, "copies(60, 1, 0)", x.copies(60, 1, 0), () -> x.copies(60, 1, 0));
        c.due("no line, outside", Checks.features(0, 5, 0, 5).copies(0, -1, 4), STATE);
    }

    private static void back() {
        LikeLastYears x = Checks.painted(Checks.begun(0, 5, 1, 5, 2, 5, 3, 5), 8375);
        c.due("the last one itself", x.back(8375), 0);
        c.due("a slip each", x.back(9264), 4);
        c.due("a scar by slips", x.back(8075), 3);
        c.due("a beard round", x.back(1375), 3);
        c.due("all", x.back(0), 5 + 7 + 3 + 2);
        Checks.judge(x, "0000");
        c.due("judges do not matter", x.back(0), 5 + 7 + 3 + 2);
        c.due("the farthest", Checks.painted(Checks.begun(0, 5, 1, 5, 2, 5, 4, 5), 0).back(9999), 36);
        for (int bad : new int[] {Integer.MIN_VALUE, -1, 10000, Integer.MAX_VALUE}) {
            c.refused(x, "back(" + bad + ")", OUTSIDE, () -> x.back(bad));
        }
        c.due("of two features", Checks.begun(0, 5, 0, 5).back(100), OUTSIDE);
        c.due("no line, outside", Checks.features(0, 5, 0, 5).back(-1), STATE);
    }

    private static void span(String of, LikeLastYears x, int... due) {
        for (int years = 0; years < due.length; years++) {
            c.due(of + ": span(" + years + ")", x.span(years), due[years]);
        }
    }

    private static void span() {
        span("in the middle", Checks.begun(0, 5, 2, 5), 1, 5, 13, 25);
        span("in a corner", Checks.begun(0, 0, 1, 9), 1, 3, 6, 10);
        span("a beard has no edge", Checks.begun(0, 0, 3, 9), 1, 4, 9, 16);
        span("three", Checks.begun(0, 5, 2, 5, 4, 5), 1, 7, 25, 63);
        span("four", Checks.begun(0, 5, 1, 5, 2, 5, 3, 5), 1, 9, 41, 129);
        LikeLastYears x = Checks.painted(Checks.begun(0, 5, 4, 5), 0);
        Checks.judge(x, "00");
        span("from the last one, without judges", x, 1, 3, 6, 10);
        for (int bad : new int[] {Integer.MIN_VALUE, -1, 4, Integer.MAX_VALUE}) {
            c.refused(x, "span(" + bad + ")", OUTSIDE, () -> x.span(bad));
        }
        c.due("no line, outside", Checks.features(0, 5, 0, 5).span(4), STATE);
    }
}
