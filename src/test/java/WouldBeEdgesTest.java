import java.math.BigInteger;

/**
 * Promises 16 to 20 at the edges that the document names. Each test's remark tells its promise and
 * quotes the sentence; QuotesTest looks whether the document has it.
 */
public final class WouldBeEdgesTest {
    private static final int NONE = LikeLastYears.NONE;
    private static final int OUTSIDE = LikeLastYears.OUTSIDE, STATE = LikeLastYears.STATE;
    private static final int FEATURE = 0, HAIR = 1, SCAR = 2, BEARD = 3, CROWN = 4;
    private static final int[] SEEDS = {0, 1, 65535, 65536, 1 << 30, Integer.MAX_VALUE - 1, Integer.MAX_VALUE};
    private static final Checks c = new Checks();

    public static void main(String[] args) throws ReflectiveOperationException {
        c.each(WouldBeEdgesTest.class);
        c.end();
    }

    private static LikeLastYears plainBegun() {
        return Checks.begun(FEATURE, 5, FEATURE, 5);
    }

    private static LikeLastYears[] withoutLine() {
        return new LikeLastYears[] {new LikeLastYears(), Checks.features(FEATURE, 5, FEATURE, 5)};
    }

    // Promise 16, by the terms: all five calls of this part, with nothing there and with two FEATURES.
    // "what would be (STATE: no LINE)"
    static void noLine() {
        for (LikeLastYears x : withoutLine()) {
            c.refused(x, "slips(0, 0)", STATE, () -> x.slips(0, 0));
            c.refused(x, "truth(0)", STATE, () -> x.truth(0));
            c.refused(x, "copies(1, 0, 0)", STATE, () -> x.copies(1, 0, 0));
            c.refused(x, "back(0)", STATE, () -> x.back(0));
            c.refused(x, "span(0)", STATE, () -> x.span(0));
        }
    }

    // ---- promise 16: slips

    // Promise 16: none are needed, one is, none is LET.
    // "SLIPS; NONE."
    static void slipsNoneOrNone() {
        LikeLastYears x = plainBegun();
        c.due("to itself", x.slips(55, 55), 0);
        c.due("to the next", x.slips(55, 56), 1);
        Checks.judge(x, "00");
        c.due("to the next, not let", x.slips(55, 56), NONE);
        c.due("to itself, who needs no judge", x.slips(55, 55), 0);
    }

    // Promise 16, by the terms: at 0 and at 9 of each KIND.
    // "A SLIP: one FEATURE's SIZE is 1 more or less (0 to 9; of a BEARD also from 9 to 0, from 0 to 9)."
    static void slipsAtTheEdgeOfSizes() {
        int[] kinds = {FEATURE, HAIR, SCAR, BEARD, CROWN};
        for (int kind : kinds) {
            LikeLastYears x = Checks.begun(kind, 5, FEATURE, 5);
            c.due("from 9 to 0 of " + kind, x.slips(9, 0), kind == BEARD ? 1 : 9);
            c.due("from 0 to 9 of " + kind, x.slips(0, 9), kind == BEARD ? 1 : 9);
            c.due("from 8 to 9 of " + kind, x.slips(8, 9), 1);
            c.due("from 1 to 0 of " + kind, x.slips(1, 0), 1);
            c.due("from 9 to 1 of " + kind, x.slips(9, 1), kind == BEARD ? 2 : 8);
        }
        LikeLastYears highest = Checks.begun(FEATURE, 5, SCAR, 5, HAIR, 5, BEARD, 5);
        c.due("from 9 to 0 of the highest figure", highest.slips(9999, 999), 1);
        c.due("from 0 to 9 of the highest figure", highest.slips(0, 9000), 1);
        c.due("no slip goes on into the next figure", highest.slips(9, 10), 10);
    }

    // Promise 16, by the terms: a way round the straight one; each LET behind the one ahead; he grows no older.
    // "SLIPS: the fewest PORTRAITS one behind the other from one PORTRAIT to another one, each a SLIP of the one ahead and LET behind it (the KING stays as he is);"
    static void slipsLetByTheKingAsHeIs() {
        LikeLastYears x = Checks.judged(Checks.begun(HAIR, 5, FEATURE, 0), "09!");
        c.due("nine, and his hair stays", x.slips(5, 95), 9);
        c.due("not his hair", x.slips(4, 94), NONE);
        // A slip wants the other feature like his: to and from there only by way of him.
        LikeLastYears round = Checks.judged(plainBegun(), "01!", "11", "10!");
        c.due("by way of him", round.slips(51, 15), 8);
        c.due("his own is come to", round.slips(51, 55), 4);
        c.due("and gone from", round.slips(55, 15), 4);
        LikeLastYears beard = Checks.judged(Checks.begun(BEARD, 5, FEATURE, 5), "19");
        c.due("the shorter way round", beard.slips(1, 8), 3);
    }

    // Promise 16, by the terms: twenty, one more, and as many as there are at all.
    // "none, if more than 20 or by no number."
    static void slipsTwentyAndMore() {
        LikeLastYears x = Checks.begun(FEATURE, 5, HAIR, 5, SCAR, 5, CROWN, 5);
        c.due("19", x.slips(0, 199), 19);
        c.due("20", x.slips(0, 299), 20);
        c.due("21", x.slips(0, 399), NONE);
        c.due("20 down", x.slips(9999, 9700), 20);
        c.due("21 down", x.slips(9999, 9600), NONE);
        c.due("36", x.slips(0, 9999), NONE);
        c.due("20 round, no two are farther", Checks.begun(BEARD, 5, BEARD, 5, BEARD, 5, BEARD, 5).slips(0, 5555), 20);
    }

    // Promise 16, by the terms: no way at all; a long way that the JUDGES want, of twenty and of one more.
    // "none, if more than 20 or by no number."
    static void slipsByNoNumber() {
        LikeLastYears shut = Checks.judged(plainBegun(), "19", "10", "10");
        c.due("the second is shut", shut.slips(0, 10), NONE);
        c.due("the first is not", shut.slips(0, 9), 9);
        // The second feature changes only where the first is 5, as his is: there and back again.
        LikeLastYears x = Checks.judged(plainBegun(), "01!", "10", "99");
        c.due("four to it, nine, four back", x.slips(1, 91), 4 + 9 + 4);
        c.due("five to it, nine, five back", x.slips(0, 90), 5 + 9 + 5);
        LikeLastYears far = Checks.judged(Checks.begun(FEATURE, 9, FEATURE, 5), "01!", "10", "99");
        c.due("nine to it, two, nine back", far.slips(0, 20), 20);
        c.due("nine to it, three, nine back", far.slips(0, 30), NONE);
    }

    // Promise 16: the first alone, the second alone, both the same.
    // "STATE; OUTSIDE: from, to."
    static void slipsOutside() {
        LikeLastYears x = plainBegun();
        c.due("the greatest", x.slips(99, 98), 1);
        c.due("the least", x.slips(1, 0), 1);
        for (int bad : Checks.noPortraits(2)) {
            c.refused(x, "slips(" + bad + ", 0)", OUTSIDE, () -> x.slips(bad, 0));
            c.refused(x, "slips(99, " + bad + ")", OUTSIDE, () -> x.slips(99, bad));
            c.refused(x, "slips to itself", OUTSIDE, () -> x.slips(bad, bad));
        }
        LikeLastYears four = Checks.begun(FEATURE, 5, HAIR, 5, SCAR, 5, BEARD, 5);
        for (int bad : Checks.noPortraits(4)) {
            c.refused(four, "slips(" + bad + ", 0)", OUTSIDE, () -> four.slips(bad, 0));
            c.refused(four, "slips(9999, " + bad + ")", OUTSIDE, () -> four.slips(9999, bad));
        }
    }

    // Promise 16: both refusals at once.
    // "STATE; OUTSIDE: from, to."
    static void slipsFirstRefusal() {
        for (LikeLastYears x : withoutLine()) {
            c.refused(x, "slips(-1, 0)", STATE, () -> x.slips(-1, 0));
            c.refused(x, "slips(0, 100)", STATE, () -> x.slips(0, 100));
        }
    }

    // ---- promise 17: truth

    private static void truth(String of, LikeLastYears x, int years, int first) {
        c.due(of + ": truth(0)", x.truth(0), years);
        c.due(of + ": truth(1)", x.truth(1), first);
    }

    // Promise 17: no YEARS, none in the first, the least and the greatest FEATURE, not in 12.
    // "TRUE: what = 0 behind how many YEARS, 1 which FEATURE in the first (NONE: none, or no YEARS); NONE, 0: not in 12."
    static void truthWhat() {
        truth("no years", Checks.begun(FEATURE, 5, HAIR, 5), 0, NONE);
        truth("the least", Checks.painted(Checks.begun(FEATURE, 5, SCAR, 5, FEATURE, 5, CROWN, 5), 5559), 1, 0);
        truth("the greatest", Checks.painted(Checks.begun(FEATURE, 5, SCAR, 5, FEATURE, 5, CROWN, 5), 9555), 1, 3);
        // The judge wants the king's hair, of which there is some left in the first year.
        LikeLastYears none = Checks.judged(Checks.painted(Checks.begun(HAIR, 3, SCAR, 5), 50), "08!");
        truth("none in the first", none, 2, NONE);
        truth("not in 12", Checks.judged(Checks.painted(plainBegun(), 59), "00"), NONE, NONE);
        // What was found for an earlier PORTRAIT is not told of the next.
        LikeLastYears x = Checks.painted(plainBegun(), 56);
        truth("at first", x, 1, 0);
        truth("then like him", Checks.painted(x, 55), 0, NONE);
        truth("then unlike him again", Checks.painted(x, 65), 1, 1);
        truth("then not in 12", Checks.judged(x, "00"), NONE, NONE);
    }

    // Promise 17, by the terms: 0, 1, 12 and 13.
    // "behind how many YEARS (0 to 12) it can be like the KING in all FEATURES;"
    static void truthNoYearToTwelve() {
        truth("0", Checks.begun(HAIR, 9, BEARD, 9), 0, NONE);
        truth("1", Checks.painted(plainBegun(), 56), 1, 0);
        // A hair of 8 is gone in 8 years. A beard of 1 is 9 in 8 years, 0 in 9, 3 in 12, 4 in 13.
        int[] beards = {9, 0, 1, 2, 3, 4, 5};
        int[] years = {8, 9, 10, 11, 12, NONE, NONE};
        for (int i = 0; i < beards.length; i++) {
            LikeLastYears x = Checks.painted(Checks.begun(HAIR, 9, BEARD, 0), 10 * beards[i]);
            c.due("a beard of " + beards[i], Checks.judged(x, "00").truth(0), years[i]);
        }
    }

    // Promise 17, by the terms: what can only be in 13 YEARS is not.
    // "NONE: not in 12."
    static void truthNotInTwelve() {
        LikeLastYears twelve = Checks.judged(Checks.painted(Checks.begun(HAIR, 9, BEARD, 0), 30), "00");
        truth("in 12", twelve, 12, NONE);
        LikeLastYears thirteen = Checks.judged(Checks.painted(Checks.begun(HAIR, 9, BEARD, 0), 40), "00");
        truth("in 13", thirteen, NONE, NONE);
    }

    // Promise 17, by the terms: one a YEAR; LET to the edge, and one farther; none.
    // "TRUE: each YEAR the KING is a YEAR older; then one FEATURE of the last PORTRAIT may become what it is of the KING (the others as they were), if that PORTRAIT is LET, or none does:"
    static void truthOneFeatureAYear() {
        LikeLastYears four = Checks.begun(FEATURE, 5, FEATURE, 5, SCAR, 5, CROWN, 5);
        truth("four, one a year", Checks.painted(four, 9999), 4, 0);
        truth("four apart by 4", Checks.judged(Checks.painted(plainBegun(), 59), "40"), 1, 0);
        truth("four apart by 3", Checks.judged(Checks.painted(plainBegun(), 59), "30"), NONE, NONE);
        // He has a hair of 4 now, the portrait none, and the judge lets nothing become so.
        LikeLastYears waits = Checks.painted(Checks.begun(HAIR, 5, FEATURE, 7), 70);
        truth("none, until all hair is gone", Checks.judged(waits, "00!"), 4, NONE);
        // The first may become so only when the second is like his: the second in the first year.
        LikeLastYears second = Checks.judged(Checks.painted(plainBegun(), 99), "90!", "99", "09");
        truth("the second ahead of the first", second, 2, 1);
    }

    // Promise 17, by the terms: each would do; none would do as well.
    // "which FEATURE becomes so in the first of them (of like ones the least; none last);"
    static void truthOfLikeOnes() {
        truth("both would do", Checks.painted(plainBegun(), 99), 2, 0);
        truth("the second and the third would do", Checks.painted(Checks.begun(FEATURE, 5, SCAR, 5, CROWN, 5), 995), 2, 1);
        // Two hairs of 8: both are gone in 8 years, and it takes 9, with whichever first or none.
        truth("none would do as well", Checks.painted(Checks.begun(HAIR, 9, HAIR, 9), 99), 9, 0);
        // The hair would have to become so once more, so it does not do in the first of two.
        truth("the least would not do", Checks.painted(Checks.begun(HAIR, 7, FEATURE, 5), 97), 2, 1);
    }

    // Promise 17: a what below the least, above the greatest; it is not done then.
    // "STATE; OUTSIDE; STATE: truth() was done 30 times."
    static void truthOutside() {
        LikeLastYears x = plainBegun();
        for (int what : Checks.beyond(0, 1)) {
            c.refused(x, "truth(" + what + ")", OUTSIDE, () -> x.truth(what));
        }
        c.due("count(6)", x.count(6), 0);
    }

    // Promise 17: the thirtieth, and one more; an IMAGE does not bring any back.
    // "STATE: truth() was done 30 times."
    static void truthThirtyTimes() {
        LikeLastYears x = Checks.painted(plainBegun(), 56);
        x.image();
        for (int time = 1; time <= 29; time++) {
            x.truth(time % 2);
        }
        c.due("count(6)", x.count(6), 29);
        c.due("the thirtieth", x.truth(0), 1);
        c.due("count(6)", x.count(6), 30);
        c.refused(x, "truth(0)", STATE, () -> x.truth(0));
        c.refused(x, "truth(1)", STATE, () -> x.truth(1));
        x.restore();
        c.refused(x, "behind restore()", STATE, () -> x.truth(0));
        c.due("count(6)", x.count(6), 30);
    }

    // Promise 17: each two of its refusals at once; a refused one is not done.
    // "STATE; OUTSIDE; STATE: truth() was done 30 times."
    static void truthFirstRefusal() {
        LikeLastYears early = Checks.features(FEATURE, 5, FEATURE, 5);
        c.refused(early, "no line, outside", STATE, () -> early.truth(2));
        for (int i = 0; i < 40; i++) {
            early.truth(0);
        }
        early.begin();
        for (int i = 0; i < 40; i++) {
            early.truth(2);
        }
        for (int time = 1; time <= 30; time++) {
            c.due("time " + time, early.truth(0), 0);
        }
        c.refused(early, "outside, 30 times", OUTSIDE, () -> early.truth(2));
        c.refused(early, "outside below, 30 times", OUTSIDE, () -> early.truth(-1));
        c.refused(early, "30 times", STATE, () -> early.truth(1));
    }

    // ---- promise 18: copies

    private static int next(int seed) {
        return BigInteger.valueOf(1103515245).multiply(BigInteger.valueOf(seed)).add(BigInteger.valueOf(12345))
            .mod(BigInteger.ONE.shiftLeft(31)).intValueExact();
    }

    /** A SEED whose first YEAR draws that FEATURE of so many, and then more (1) or less (0). */
    private static int seedOf(int features, int feature, int more) {
        for (int seed = 0; seed < 10000; seed++) {
            int first = next(seed);
            if ((first >> 16) % features == feature && (next(first) >> 16) % 2 == more) {
                return seed;
            }
        }
        return NONE;
    }

    // Promise 18: of one YEAR, each what; nothing is painted.
    // "COPIES: what = 0 the last PORTRAIT then, 1 how far it and the KING are APART then, 2 how many SLIPS were LET, 3 the SEED then."
    static void copiesWhat() {
        LikeLastYears x = Checks.begun(HAIR, 5, BEARD, 9);
        int seed = seedOf(2, 1, 1);
        c.refused(x, "what = 0", 5, () -> x.copies(1, seed, 0)); // the beard goes round
        c.refused(x, "what = 1", 1, () -> x.copies(1, seed, 1)); // his does, too, and he has a hair less
        c.refused(x, "what = 2", 1, () -> x.copies(1, seed, 2));
        c.refused(x, "what = 3", next(next(seed)), () -> x.copies(1, seed, 3));
        c.due("count(1)", x.count(1), 1);
    }

    // Promise 18: the least and the greatest number of YEARS, and beyond.
    // "OUTSIDE: years (1 to 60), seed (0 at least), what."
    static void copiesYears() {
        LikeLastYears x = plainBegun();
        for (int years : Checks.beyond(1, 60)) {
            c.refused(x, "copies(" + years + ", 0, 0)", OUTSIDE, () -> x.copies(years, 0, 0));
        }
        int seed = 0;
        for (int years = 1; years <= 60; years++) {
            seed = next(next(seed));
            if (years == 1 || years == 2 || years == 59 || years == 60) {
                c.due("copies(" + years + ", 0, 3)", x.copies(years, 0, 3), seed);
            }
        }
    }

    // Promise 18: the least and the greatest SEED, and below.
    // "OUTSIDE: years (1 to 60), seed (0 at least), what."
    static void copiesSeeds() {
        LikeLastYears x = plainBegun();
        for (int seed : new int[] {-1, -2, Integer.MIN_VALUE, Integer.MIN_VALUE + 1}) {
            c.refused(x, "copies(1, " + seed + ", 3)", OUTSIDE, () -> x.copies(1, seed, 3));
        }
        c.due("0", x.copies(1, 0, 3), next(12345));
        c.due("the greatest", x.copies(1, Integer.MAX_VALUE, 3), next(next(Integer.MAX_VALUE)));
    }

    // Promise 18: a what below the least, above the greatest.
    // "OUTSIDE: years (1 to 60), seed (0 at least), what."
    static void copiesOutsideWhat() {
        LikeLastYears x = plainBegun();
        for (int what : Checks.beyond(0, 3)) {
            c.refused(x, "copies(1, 0, " + what + ")", OUTSIDE, () -> x.copies(1, 0, what));
        }
        c.refused(x, "nothing of it is as told", OUTSIDE, () -> x.copies(0, -1, 4));
    }

    // Promise 18: both refusals at once.
    // "STATE; OUTSIDE:"
    static void copiesFirstRefusal() {
        for (LikeLastYears x : withoutLine()) {
            c.refused(x, "years", STATE, () -> x.copies(0, 0, 0));
            c.refused(x, "seed", STATE, () -> x.copies(1, -1, 0));
            c.refused(x, "what", STATE, () -> x.copies(1, 0, 4));
        }
    }

    // Promise 18, by the terms: one YEAR, and sixty; the KING of so many YEARS on.
    // "COPIES by a SEED, as they would be: so many YEARS (1 to 60): the KING is a YEAR older;"
    static void copiesMakeTheKingOlder() {
        // The judge lets nothing change: what is told is how far he has gone from it.
        LikeLastYears x = Checks.judged(Checks.begun(HAIR, 3, BEARD, 8), "00");
        c.due("behind one year", x.copies(1, 0, 1), 1 + 1);
        c.due("behind two", x.copies(2, 0, 1), 2 + 2);
        c.due("behind three", x.copies(3, 0, 1), 3 + 3);
        c.due("behind nine", x.copies(9, 0, 1), 3 + 1);
        c.due("behind sixty", x.copies(60, 0, 1), 3);
        c.due("the king himself is as he was", Checks.king(x), 83);
        LikeLastYears full = Checks.begun(FEATURE, 5, FEATURE, 5);
        for (int portrait = 1; portrait < 60; portrait++) {
            full.paint(55);
        }
        c.due("behind a full line", full.copies(60, 7, 3), plainBegun().copies(60, 7, 3));
    }

    // Promise 18, by the terms: each FEATURE of two to four, more and less.
    // "a DRAW of how many FEATURES there are, then a DRAW of 2 (1: more, 0: less):"
    static void copiesDrawFeatureThenMoreOrLess() {
        int[] units = {1, 10, 100, 1000};
        LikeLastYears[] of = {plainBegun(), Checks.begun(FEATURE, 5, HAIR, 5, SCAR, 5),
            Checks.begun(FEATURE, 5, HAIR, 5, SCAR, 5, BEARD, 5)};
        for (LikeLastYears x : of) {
            int features = x.count(0);
            for (int f = 0; f < features; f++) {
                c.due("more of " + f, x.copies(1, seedOf(features, f, 1), 0), x.line(0) + units[f]);
                c.due("less of " + f, x.copies(1, seedOf(features, f, 0), 0), x.line(0) - units[f]);
            }
        }
    }

    // Promise 18, by the terms: each KIND from 9 on and below 0; that no SLIP was LET then.
    // "the PORTRAIT with that SLIP (if there is none, as of a FEATURE from 9 on: the same PORTRAIT),"
    static void copiesWithoutSuchSlip() {
        for (int kind = 0; kind <= 4; kind++) {
            LikeLastYears high = Checks.begun(kind, 9, FEATURE, 5);
            int more = seedOf(2, 0, 1);
            c.due("9 on of " + kind, high.copies(1, more, 0), kind == BEARD ? 50 : 59);
            c.due("slips let", high.copies(1, more, 2), kind == BEARD ? 1 : 0);
            c.due("the seed goes on", high.copies(1, more, 3), next(next(more)));
            LikeLastYears low = Checks.begun(kind, 0, FEATURE, 5);
            int less = seedOf(2, 0, 0);
            c.due("below 0 of " + kind, low.copies(1, less, 0), kind == BEARD ? 59 : 50);
            c.due("slips let", low.copies(1, less, 2), kind == BEARD ? 1 : 0);
            c.due("9 and less of " + kind, high.copies(1, less, 0), 58);
            c.due("0 and more of " + kind, low.copies(1, more, 0), 51);
        }
        // The highest figure: from 9 on there is no SLIP, not one into a figure that is not there.
        LikeLastYears four = Checks.begun(FEATURE, 5, FEATURE, 5, FEATURE, 5, FEATURE, 9);
        c.due("the highest figure", four.copies(1, seedOf(4, 3, 1), 0), 9555);
    }

    // Promise 18, by the terms: LET, and not, by the KING of then; not LET in any of sixty YEARS.
    // "if it is LET behind the last one; else the same one again."
    static void copiesLetOrTheSame() {
        LikeLastYears x = Checks.judged(plainBegun(), "10");
        c.due("let", x.copies(1, seedOf(2, 0, 1), 0), 56);
        c.due("let, how many", x.copies(1, seedOf(2, 0, 1), 2), 1);
        c.due("not let", x.copies(1, seedOf(2, 1, 1), 0), 55);
        c.due("not let, how many", x.copies(1, seedOf(2, 1, 1), 2), 0);
        LikeLastYears never = Checks.judged(plainBegun(), "00");
        c.due("never", never.copies(60, 1, 0), 55);
        c.due("never, how many", never.copies(60, 1, 2), 0);
        // The hair must be his of the year: 4 painted, 5 now, 4 then.
        LikeLastYears then = Checks.judged(Checks.painted(Checks.begun(HAIR, 6, FEATURE, 5), 54), "09!");
        c.due("by the king then", then.copies(1, seedOf(2, 1, 1), 0), 64);
        LikeLastYears now = Checks.judged(Checks.painted(Checks.begun(HAIR, 6, FEATURE, 5), 55), "09!");
        c.due("not by the king now", now.copies(1, seedOf(2, 1, 1), 0), 55);
        c.due("all sixty let", Checks.begun(BEARD, 5, BEARD, 5).copies(60, 1, 2), 60);
    }

    // Promise 18, by the terms: the SEED goes round at 2 to the 31, the least and the greatest SEED.
    // "DRAWS: the next SEED each time: 1103515245 times it and 12345, its rest by 2 to the 31; then that by 65536 (rounded down), its rest."
    static void copiesDrawsGoRound() {
        LikeLastYears x = Checks.begun(BEARD, 5, BEARD, 5, BEARD, 5);
        for (int seed : SEEDS) {
            int s = seed;
            int[] sizes = {5, 5, 5};
            for (int year = 1; year <= 60; year++) {
                s = next(s);
                int f = s / 65536 % 3;
                s = next(s);
                sizes[f] = (sizes[f] + (s / 65536 % 2 == 1 ? 1 : 9)) % 10;
                if (year <= 3 || year == 60) {
                    c.due(year + " years from " + seed, x.copies(year, seed, 0), sizes[2] * 100 + sizes[1] * 10 + sizes[0]);
                    c.due("the seed then", x.copies(year, seed, 3), s);
                    c.due("which is one", s >= 0);
                }
            }
        }
    }

    // ---- promise 19: back

    // Promise 19: none, one, and as many as there may be.
    // "BACK."
    static void backLeastAndGreatest() {
        LikeLastYears x = Checks.begun(FEATURE, 0, HAIR, 0, SCAR, 0, CROWN, 0);
        c.due("itself", x.back(0), 0);
        c.due("one", x.back(1000), 1);
        c.due("36", x.back(9999), 36);
        LikeLastYears round = Checks.begun(BEARD, 0, BEARD, 0, BEARD, 0, BEARD, 0);
        c.due("itself, round", round.back(0), 0);
        c.due("round by one each", round.back(9999), 4);
        c.due("half round", round.back(5555), 20);
    }

    // Promise 19, by the terms: to the last one, not to the KING; a SCAR by SLIPS; without JUDGES.
    // "BACK: the least number of YEARS ago that a told PORTRAIT could have been the KING's, if in each YEAR there was one SLIP at most (JUDGES do not matter) up to the last one."
    static void backToTheLastOne() {
        LikeLastYears x = Checks.painted(Checks.begun(HAIR, 9, SCAR, 9), 11);
        c.due("the last one", x.back(11), 0);
        c.due("the first one", x.back(99), 16);
        c.due("a scar by eight", x.back(91), 8);
        c.due("a scar by one", x.back(21), 1);
        Checks.judge(x, "00");
        c.due("judges do not matter", x.back(99), 16);
    }

    // Promise 19: the least and the greatest, and beyond.
    // "STATE; OUTSIDE: portrait."
    static void backOutside() {
        LikeLastYears x = plainBegun();
        c.due("the least", x.back(0), 10);
        c.due("the greatest", x.back(99), 8);
        for (int bad : Checks.noPortraits(2)) {
            c.refused(x, "back(" + bad + ")", OUTSIDE, () -> x.back(bad));
        }
        LikeLastYears four = Checks.begun(FEATURE, 5, HAIR, 5, SCAR, 5, BEARD, 5);
        for (int bad : Checks.noPortraits(4)) {
            c.refused(four, "back(" + bad + ") of four", OUTSIDE, () -> four.back(bad));
        }
    }

    // Promise 19: no LINE alone, and both refusals at once.
    // "STATE; OUTSIDE: portrait."
    static void backFirstRefusal() {
        for (LikeLastYears x : withoutLine()) {
            c.refused(x, "back(0)", STATE, () -> x.back(0));
            c.refused(x, "back(-1)", STATE, () -> x.back(-1));
            c.refused(x, "back(100)", STATE, () -> x.back(100));
        }
    }

    // ---- promise 20: span

    // Promise 20: the least and the greatest number of YEARS.
    // "SPAN."
    static void spanLeastAndGreatest() {
        c.due("0", plainBegun().span(0), 1);
        c.due("3", plainBegun().span(3), 25);
        c.due("3 of four", Checks.begun(FEATURE, 5, HAIR, 5, SCAR, 5, BEARD, 5).span(3), 129);
    }

    // Promise 20, by the terms: in the middle, one from the edge, at the edge, round.
    // "SPAN: how many PORTRAITS could be so no more than n YEARS (0 to 3) ago."
    static void spanAtTheEdgeOfSizes() {
        int[][] due = {{1, 5, 13, 25}, {1, 4, 9, 16}, {1, 3, 6, 10}, {1, 5, 12, 21}, {1, 5, 13, 25}};
        LikeLastYears[] of = {plainBegun(), Checks.begun(FEATURE, 0, SCAR, 5), Checks.begun(HAIR, 9, CROWN, 0),
            Checks.begun(FEATURE, 1, FEATURE, 5), Checks.begun(BEARD, 0, BEARD, 9)};
        for (int i = 0; i < of.length; i++) {
            for (int years = 0; years <= 3; years++) {
                c.due("object " + i + ", span(" + years + ")", of[i].span(years), due[i][years]);
            }
        }
        LikeLastYears last = Checks.judged(Checks.painted(plainBegun(), 0), "00");
        c.due("from the last one, and judges do not matter", last.span(3), 10);
    }

    // Promise 20: below the least, above the greatest.
    // "STATE; OUTSIDE: years."
    static void spanOutside() {
        LikeLastYears x = plainBegun();
        for (int years : Checks.beyond(0, 3)) {
            c.refused(x, "span(" + years + ")", OUTSIDE, () -> x.span(years));
        }
    }

    // Promise 20: no LINE alone, and both refusals at once.
    // "STATE; OUTSIDE: years."
    static void spanFirstRefusal() {
        for (LikeLastYears x : withoutLine()) {
            c.refused(x, "span(0)", STATE, () -> x.span(0));
            c.refused(x, "span(-1)", STATE, () -> x.span(-1));
            c.refused(x, "span(4)", STATE, () -> x.span(4));
        }
    }
}
