/**
 * Promises 1 to 8 at the edges that the document names. Each test's remark tells its promise and
 * quotes the sentence; QuotesTest looks whether the document has it.
 */
public final class FeatureEdgesTest {
    private static final int NONE = LikeLastYears.NONE, UNKNOWN = LikeLastYears.UNKNOWN;
    private static final int OUTSIDE = LikeLastYears.OUTSIDE, STATE = LikeLastYears.STATE, FULL = LikeLastYears.FULL;
    private static final int FEATURE = 0, HAIR = 1, SCAR = 2, BEARD = 3, CROWN = 4;
    private static final Checks c = new Checks();

    public static void main(String[] args) throws ReflectiveOperationException {
        c.each(FeatureEdgesTest.class);
        c.end();
    }

    // ---- promise 1: a new object

    // Promise 1: nothing is there yet, whatever another object has.
    // "No FEATURES, no LINE."
    static void newObjectHasNothing() {
        LikeLastYears other = Checks.people(Checks.judged(Checks.begun(FEATURE, 5, HAIR, 5), "11"), 55);
        LikeLastYears x = new LikeLastYears();
        c.due("count(0)", x.count(0), 0);
        c.due("about(0, 0)", x.about(0, 0), UNKNOWN);
        c.due("as(0, 0)", x.as(0, 0), UNKNOWN);
        c.due("count(1)", x.count(1), 0);
        c.due("line(0)", x.line(0), UNKNOWN);
        c.due("image()", x.image(), STATE);
        for (int what = 2; what <= 7; what++) {
            c.due("count(" + what + ")", x.count(what), 0);
        }
        c.due("the other's line", other.count(1), 1);
    }

    // Promise 1, by the terms: the last call that is promised answers as the first does.
    // "An object is used for at most 512 calls after it has been made; what later calls answer is free."
    static void fiveHundredTwelfthCall() {
        LikeLastYears x = Checks.begun(BEARD, 5, BEARD, 5, BEARD, 5, BEARD, 5); // five calls
        for (int call = 6; call < 512; call++) {
            c.due("call " + call, x.slips(0, 5555), 20);
        }
        c.due("call 512", x.digest(), Checks.begun(BEARD, 5, BEARD, 5, BEARD, 5, BEARD, 5).digest());
    }

    // ---- promise 2: feature

    // Promise 2: from the first to the last.
    // "A FEATURE: its number."
    static void featureNumbers() {
        LikeLastYears x = new LikeLastYears();
        for (int number = 0; number < 4; number++) {
            c.due("feature " + number, x.feature(number, number), number);
            c.due("count(0)", x.count(0), number + 1);
        }
    }

    // Promise 2, by the terms: the least and the greatest KIND with the least and the greatest SIZE.
    // "0 FEATURE, 1 HAIR, 2 SCAR, 3 BEARD, 4 CROWN, each with a SIZE of the KING (0 to 9)."
    static void everyKindTakesLeastAndGreatestSize() {
        for (int kind = 0; kind <= 4; kind++) {
            for (int size = 0; size <= 9; size += 9) {
                LikeLastYears x = new LikeLastYears();
                c.due("feature(" + kind + ", " + size + ")", x.feature(kind, size), 0);
                c.due("its kind", x.about(0, 0), kind);
                c.due("its size", x.about(0, 1), size);
            }
        }
    }

    // Promise 2: a KIND below the least, above the greatest.
    // "OUTSIDE: kind, size (0 to 9);"
    static void featureOfNoKind() {
        LikeLastYears x = Checks.features(CROWN, 9);
        for (int kind : Checks.beyond(0, 4)) {
            c.refused(x, "feature(" + kind + ", 5)", OUTSIDE, () -> x.feature(kind, 5));
        }
        c.due("count(0)", x.count(0), 1);
    }

    // Promise 2: a SIZE below the least, above the greatest.
    // "OUTSIDE: kind, size (0 to 9);"
    static void featureOfNoSize() {
        LikeLastYears x = Checks.features(CROWN, 9);
        for (int kind = 0; kind <= 4; kind++) {
            int k = kind;
            for (int size : Checks.beyond(0, 9)) {
                c.refused(x, "feature(" + k + ", " + size + ")", OUTSIDE, () -> x.feature(k, size));
            }
        }
        c.refused(x, "neither", OUTSIDE, () -> x.feature(5, 10));
        c.due("count(0)", x.count(0), 1);
    }

    // Promise 2: with room for one more.
    // "STATE: THE LINE has begun;"
    static void featureBehindBegin() {
        for (int features = 2; features <= 3; features++) {
            LikeLastYears x = Checks.features(FEATURE, 1, HAIR, 2);
            if (features == 3) {
                c.due("ahead of begin()", x.feature(SCAR, 3), 2);
            }
            x.begin();
            c.refused(x, "behind begin()", STATE, () -> x.feature(SCAR, 3));
            c.due("count(0)", x.count(0), features);
        }
    }

    // Promise 2: a fourth, and one more.
    // "FULL."
    static void featureFull() {
        LikeLastYears x = Checks.features(FEATURE, 1, HAIR, 2, SCAR, 3);
        c.due("a fourth", x.feature(BEARD, 4), 3);
        c.refused(x, "a fifth", FULL, () -> x.feature(CROWN, 5));
        c.due("count(0)", x.count(0), 4);
        c.due("about(4, 0)", x.about(4, 0), UNKNOWN);
        c.due("begin()", x.begin(), 4321);
    }

    // Promise 2: each two of its refusals at once, and all three.
    // "OUTSIDE: kind, size (0 to 9); STATE: THE LINE has begun; FULL."
    static void featureFirstRefusal() {
        LikeLastYears begun = Checks.begun(FEATURE, 1, HAIR, 2);
        c.refused(begun, "no kind, begun", OUTSIDE, () -> begun.feature(5, 0));
        c.refused(begun, "no size, begun", OUTSIDE, () -> begun.feature(0, 10));
        LikeLastYears full = Checks.features(FEATURE, 1, HAIR, 2, SCAR, 3, BEARD, 4);
        c.refused(full, "no kind, full", OUTSIDE, () -> full.feature(-1, 0));
        c.refused(full, "no size, full", OUTSIDE, () -> full.feature(0, -1));
        full.begin();
        c.refused(full, "begun, full", STATE, () -> full.feature(0, 0));
        c.refused(full, "no size, begun, full", OUTSIDE, () -> full.feature(0, 10));
    }

    // ---- promise 3: about

    // Promise 3: the least and the greatest what, without a LINE and with one.
    // "Of a FEATURE: what = 0 KIND, 1 SIZE of the KING now, 2 SIZE in the last PORTRAIT (NONE: there is no LINE)."
    static void aboutWithoutLine() {
        LikeLastYears x = Checks.features(BEARD, 9, CROWN, 0);
        c.due("kind", x.about(0, 0), BEARD);
        c.due("size", x.about(0, 1), 9);
        c.due("no portrait", x.about(0, 2), NONE);
        c.due("no portrait of the last", x.about(1, 2), NONE);
        x.begin();
        c.due("the first portrait", x.about(0, 2), 9);
        c.due("the first portrait of the last", x.about(1, 2), 0);
        x.paint(70);
        c.due("size of the king now", x.about(0, 1), 0);
        c.due("size in the last portrait", x.about(0, 2), 0);
        c.due("size in the last portrait of the last", x.about(1, 2), 7);
    }

    // Promise 3: a number that names no FEATURE, where there are none, two, four.
    // "UNKNOWN; OUTSIDE."
    static void aboutUnknown() {
        LikeLastYears none = new LikeLastYears();
        c.refused(none, "about(0, 0) of none", UNKNOWN, () -> none.about(0, 0));
        LikeLastYears two = Checks.features(FEATURE, 1, HAIR, 2);
        c.due("the last of two", two.about(1, 0), HAIR);
        for (int f : Checks.beyond(0, 1)) {
            c.refused(two, "about(" + f + ", 0) of two", UNKNOWN, () -> two.about(f, 0));
        }
        LikeLastYears four = Checks.begun(FEATURE, 1, HAIR, 2, SCAR, 3, CROWN, 4);
        c.due("the last of four", four.about(3, 0), CROWN);
        for (int f : Checks.beyond(0, 3)) {
            c.refused(four, "about(" + f + ", 2) of four", UNKNOWN, () -> four.about(f, 2));
        }
    }

    // Promise 3: a what below the least, above the greatest.
    // "UNKNOWN; OUTSIDE."
    static void aboutOutside() {
        LikeLastYears x = Checks.features(FEATURE, 1, HAIR, 2);
        for (int what : Checks.beyond(0, 2)) {
            c.refused(x, "about(1, " + what + ")", OUTSIDE, () -> x.about(1, what));
        }
    }

    // Promise 3: both at once.
    // "UNKNOWN; OUTSIDE."
    static void aboutFirstRefusal() {
        LikeLastYears x = Checks.features(FEATURE, 1, HAIR, 2);
        c.refused(x, "about(2, 3)", UNKNOWN, () -> x.about(2, 3));
        c.refused(x, "about(-1, -1)", UNKNOWN, () -> x.about(-1, -1));
    }

    // Promise 3, by the terms: a HAIR of 1, and one that is gone.
    // "A YEAR makes the KING older: a HAIR is 1 less (0 at least),"
    static void hairIsNoLessThanNone() {
        LikeLastYears x = Checks.begun(HAIR, 9, HAIR, 1, HAIR, 0);
        x.paint(0);
        c.due("of 9", x.about(0, 1), 8);
        c.due("of 1", x.about(1, 1), 0);
        c.due("of 0", x.about(2, 1), 0);
        x.paint(0);
        c.due("of 9, the next year", x.about(0, 1), 7);
        c.due("of 1, the next year", x.about(1, 1), 0);
        c.due("of 0, the next year", x.about(2, 1), 0);
    }

    // Promise 3, by the terms: a BEARD goes round.
    // "a BEARD 1 more (behind 9 comes 0),"
    static void beardGoesRound() {
        LikeLastYears x = Checks.begun(BEARD, 8, BEARD, 0);
        int[] first = {9, 0, 1};
        for (int year = 0; year < 3; year++) {
            x.paint(0);
            c.due("of 8, year " + year, x.about(0, 1), first[year]);
            c.due("of 0, year " + year, x.about(1, 1), year + 1);
        }
        for (int year = 3; year < 10; year++) {
            x.paint(0);
        }
        c.due("of 8, ten years on", x.about(0, 1), 8);
        c.due("of 0, ten years on", x.about(1, 1), 0);
    }

    // Promise 3, by the terms: the other KINDS at the least and the greatest SIZE.
    // "others stay."
    static void othersStay() {
        LikeLastYears low = Checks.begun(FEATURE, 0, SCAR, 0, CROWN, 0);
        LikeLastYears high = Checks.begun(FEATURE, 9, SCAR, 9, CROWN, 9);
        for (int year = 0; year < 12; year++) {
            low.paint(555);
            high.paint(555);
        }
        for (int f = 0; f < 3; f++) {
            c.due("least of " + f, low.about(f, 1), 0);
            c.due("greatest of " + f, high.about(f, 1), 9);
        }
    }

    // ---- promise 4: as

    // Promise 4: each KIND taken as each.
    // "A FEATURE taken as a KIND: its number; NONE: it is none such (the cast fails)."
    static void asTellsNumberOrNone() {
        LikeLastYears x = Checks.features(HAIR, 1, FEATURE, 2, BEARD, 3, SCAR, 4);
        int[] kinds = {HAIR, FEATURE, BEARD, SCAR};
        for (int f = 0; f < 4; f++) {
            for (int kind = 0; kind <= 4; kind++) {
                boolean isSuch = kind == FEATURE || kind == kinds[f];
                c.due("as(" + f + ", " + kind + ")", x.as(f, kind), isSuch ? f : NONE);
            }
        }
    }

    // Promise 4, by the terms: a CROWN is two KINDS more, a SCAR no CROWN.
    // "All are FEATURES; a CROWN is a SCAR, too."
    static void crownIsScarToo() {
        LikeLastYears x = Checks.features(SCAR, 1, CROWN, 2);
        int[] crown = {1, NONE, 1, NONE, 1};
        for (int kind = 0; kind <= 4; kind++) {
            c.due("a crown as " + kind, x.as(1, kind), crown[kind]);
        }
        c.due("a scar as a crown", x.as(0, CROWN), NONE);
        c.due("a crown's own kind", x.about(1, 0), CROWN);
    }

    // Promise 4: a number that names no FEATURE.
    // "UNKNOWN; OUTSIDE."
    static void asUnknown() {
        LikeLastYears none = new LikeLastYears();
        c.refused(none, "as(0, 0) of none", UNKNOWN, () -> none.as(0, 0));
        LikeLastYears x = Checks.features(FEATURE, 1, HAIR, 2, BEARD, 3, CROWN, 4);
        for (int f : Checks.beyond(0, 3)) {
            c.refused(x, "as(" + f + ", 0)", UNKNOWN, () -> x.as(f, 0));
        }
    }

    // Promise 4: a KIND below the least, above the greatest.
    // "UNKNOWN; OUTSIDE."
    static void asOutside() {
        LikeLastYears x = Checks.features(FEATURE, 1, CROWN, 2);
        for (int kind : Checks.beyond(0, 4)) {
            c.refused(x, "as(0, " + kind + ")", OUTSIDE, () -> x.as(0, kind));
            c.refused(x, "as(1, " + kind + ")", OUTSIDE, () -> x.as(1, kind));
        }
    }

    // Promise 4: both at once.
    // "UNKNOWN; OUTSIDE."
    static void asFirstRefusal() {
        LikeLastYears x = Checks.features(FEATURE, 1, CROWN, 2);
        c.refused(x, "as(2, 5)", UNKNOWN, () -> x.as(2, 5));
        c.refused(x, "as(-1, -1)", UNKNOWN, () -> x.as(-1, -1));
    }

    // ---- promise 5: begin

    // Promise 5: the least and the greatest PORTRAIT of the fewest and of the most FEATURES.
    // "THE LINE begins: the first PORTRAIT."
    static void beginTellsFirstPortrait() {
        c.due("two, least", Checks.features(FEATURE, 0, HAIR, 0).begin(), 0);
        c.due("two, greatest", Checks.features(BEARD, 9, CROWN, 9).begin(), 99);
        c.due("four, least", Checks.features(FEATURE, 0, HAIR, 0, SCAR, 0, BEARD, 0).begin(), 0);
        c.due("four, greatest", Checks.features(FEATURE, 9, HAIR, 9, SCAR, 9, BEARD, 9).begin(), 9999);
    }

    // Promise 5, by the terms: the lowest figure and the highest.
    // "A PORTRAIT has a SIZE (0 to 9) of each FEATURE, told as a number whose figures (of ten), the lowest first, are those of FEATURES 0, 1, ..;"
    static void figuresLowestFirst() {
        LikeLastYears x = Checks.features(FEATURE, 1, HAIR, 0, SCAR, 9, BEARD, 2);
        c.due("begin()", x.begin(), 2901);
        x.paint(9);
        c.due("the lowest", x.about(0, 2), 9);
        c.due("the next", x.about(1, 2), 0);
        x.paint(9000);
        c.due("the highest", x.about(3, 2), 9);
        c.due("the one below", x.about(2, 2), 0);
    }

    // Promise 5: a second time.
    // "STATE: it has begun,"
    static void beginTwice() {
        LikeLastYears x = Checks.begun(FEATURE, 1, HAIR, 2);
        c.refused(x, "at once", STATE, () -> x.begin());
        x.paint(55);
        c.refused(x, "behind paint()", STATE, () -> x.begin());
        x.image();
        x.restore();
        c.refused(x, "behind restore()", STATE, () -> x.begin());
        c.due("count(1)", x.count(1), 2);
    }

    // Promise 5: none, one, two.
    // "or there are fewer than two FEATURES."
    static void beginWithTooFew() {
        LikeLastYears x = new LikeLastYears();
        c.refused(x, "none", STATE, () -> x.begin());
        x.feature(FEATURE, 1);
        c.refused(x, "one", STATE, () -> x.begin());
        c.due("count(1)", x.count(1), 0);
        c.due("a second is taken still", x.feature(HAIR, 2), 1);
        c.due("two", x.begin(), 21);
    }

    // Promise 5, by the terms: as few and as many as there may be.
    // "FEATURES (two to four, numbered) are of KINDS"
    static void twoToFourFeatures() {
        int[] first = {STATE, STATE, 55, 555, 5555};
        for (int many = 0; many <= 4; many++) {
            LikeLastYears x = new LikeLastYears();
            for (int f = 0; f < many; f++) {
                x.feature(FEATURE, 5);
            }
            c.due("begin() with " + many, x.begin(), first[many]);
            c.due("count(0)", x.count(0), many);
        }
    }

    // ---- promise 6: apart

    // Promise 6: none at all, and as far as may be.
    // "How far APART two PORTRAITS are."
    static void apartLeastAndGreatest() {
        LikeLastYears x = Checks.begun(FEATURE, 5, HAIR, 5, SCAR, 5, CROWN, 5);
        c.due("0 and 0", x.apart(0, 0), 0);
        c.due("9999 and 9999", x.apart(9999, 9999), 0);
        c.due("0 and 9999", x.apart(0, 9999), 36);
        c.due("9999 and 0", x.apart(9999, 0), 36);
    }

    // Promise 6, by the terms: a FEATURE and a HAIR, the least and the greatest SIZE.
    // "How far APART two SIZES are: their difference;"
    static void apartByDifference() {
        LikeLastYears x = Checks.begun(FEATURE, 5, HAIR, 5);
        for (int size = 0; size <= 9; size++) {
            c.due("feature 0 and " + size, x.apart(0, size), size);
            c.due("feature 9 and " + size, x.apart(9, size), 9 - size);
            c.due("hair 0 and " + size, x.apart(0, size * 10), size);
            c.due("hair 9 and " + size, x.apart(90, size * 10), 9 - size);
        }
    }

    // Promise 6, by the terms: side by side, and as unlike as may be.
    // "of a SCAR, a CROWN 9, if they are unlike;"
    static void apartIfUnlike() {
        LikeLastYears x = Checks.begun(SCAR, 5, CROWN, 5);
        for (int size = 0; size <= 9; size++) {
            c.due("scar 0 and " + size, x.apart(0, size), size == 0 ? 0 : 9);
            c.due("crown 0 and " + size, x.apart(0, size * 10), size == 0 ? 0 : 9);
            c.due("scar 9 and " + size, x.apart(9, size), size == 9 ? 0 : 9);
            c.due("crown 9 and " + size, x.apart(90, size * 10), size == 9 ? 0 : 9);
        }
    }

    // Promise 6, by the terms: round between 9 and 0, and half round.
    // "of a BEARD the shorter way round (from 9 to 0 it is 1)."
    static void apartRound() {
        LikeLastYears x = Checks.begun(BEARD, 5, BEARD, 5);
        c.due("9 and 0", x.apart(9, 0), 1);
        c.due("0 and 9", x.apart(0, 9), 1);
        int[] fromNone = {0, 1, 2, 3, 4, 5, 4, 3, 2, 1};
        for (int by = 0; by <= 9; by++) {
            for (int size = 0; size <= 9; size++) {
                c.due(size + " and " + by + " on", x.apart(size, (size + by) % 10), fromNone[by]);
            }
        }
    }

    // Promise 6, by the terms: one KIND each.
    // "PORTRAITS: of all FEATURES together."
    static void apartAllTogether() {
        LikeLastYears x = Checks.begun(FEATURE, 5, HAIR, 5, CROWN, 5, BEARD, 5);
        c.due("each alone", x.apart(0, 7) + x.apart(0, 30) + x.apart(0, 100) + x.apart(0, 8000), 7 + 3 + 9 + 2);
        c.due("together", x.apart(0, 8137), 7 + 3 + 9 + 2);
    }

    // Promise 6: the first alone, the second alone, both.
    // "OUTSIDE: a, b;"
    static void apartOutside() {
        LikeLastYears x = Checks.begun(FEATURE, 5, HAIR, 5, SCAR, 5);
        c.due("the greatest", x.apart(999, 999), 0);
        for (int bad : Checks.noPortraits(3)) {
            c.refused(x, "apart(" + bad + ", 0)", OUTSIDE, () -> x.apart(bad, 0));
            c.refused(x, "apart(999, " + bad + ")", OUTSIDE, () -> x.apart(999, bad));
            c.refused(x, "apart of that twice", OUTSIDE, () -> x.apart(bad, bad));
        }
    }

    // Promise 6, by the terms: the greatest and one beyond, of two, three, four.
    // "it is below 10 to the power of how many FEATURES there are."
    static void portraitsAreBelowAPower() {
        LikeLastYears[] of = {Checks.begun(FEATURE, 5, FEATURE, 5), Checks.begun(FEATURE, 5, FEATURE, 5, FEATURE, 5),
            Checks.begun(FEATURE, 5, FEATURE, 5, FEATURE, 5, FEATURE, 5)};
        int[] below = {100, 1000, 10000};
        for (int i = 0; i < 3; i++) {
            LikeLastYears x = of[i];
            int beyond = below[i];
            c.due("the greatest", x.apart(beyond - 1, 0), 9 * (i + 2));
            c.due("the least", x.apart(0, 0), 0);
            c.refused(x, "apart(" + beyond + ", 0)", OUTSIDE, () -> x.apart(beyond, 0));
            c.refused(x, "apart(0, " + beyond + ")", OUTSIDE, () -> x.apart(0, beyond));
            c.refused(x, "apart(-1, 0)", OUTSIDE, () -> x.apart(-1, 0));
            c.refused(x, "apart(0, -1)", OUTSIDE, () -> x.apart(0, -1));
        }
    }

    // Promise 6: with no FEATURE, with two, and both refusals at once.
    // "STATE (ahead of it): no LINE."
    static void apartWithoutLine() {
        for (LikeLastYears x : new LikeLastYears[] {new LikeLastYears(), Checks.features(FEATURE, 5, HAIR, 5)}) {
            c.refused(x, "apart(0, 0)", STATE, () -> x.apart(0, 0));
            c.refused(x, "apart(-1, 0)", STATE, () -> x.apart(-1, 0));
            c.refused(x, "apart(0, 100)", STATE, () -> x.apart(0, 100));
        }
    }

    // ---- promise 7: paint

    // Promise 7: by the KING of this YEAR, not of the last.
    // "PAINTING: how far the KING (as he is then) and the new PORTRAIT are APART."
    static void paintTellsHowFar() {
        LikeLastYears x = Checks.begun(HAIR, 1, BEARD, 9);
        c.due("like him then", x.paint(0), 0);
        c.due("like him before", x.paint(0), 1);
        LikeLastYears far = Checks.begun(FEATURE, 0, SCAR, 0, CROWN, 0, HAIR, 1);
        c.due("as far as may be", far.paint(9999), 36);
    }

    // Promise 7: with no FEATURE, with two.
    // "STATE: no LINE;"
    static void paintWithoutLine() {
        for (LikeLastYears x : new LikeLastYears[] {new LikeLastYears(), Checks.features(HAIR, 5, BEARD, 5)}) {
            c.refused(x, "paint(0)", STATE, () -> x.paint(0));
            c.due("count(1)", x.count(1), 0);
        }
    }

    // Promise 7: the greatest, and beyond.
    // "OUTSIDE: portrait;"
    static void paintOutside() {
        LikeLastYears x = Checks.begun(HAIR, 5, BEARD, 5);
        for (int bad : Checks.noPortraits(2)) {
            c.refused(x, "paint(" + bad + ")", OUTSIDE, () -> x.paint(bad));
        }
        c.due("the king is no older", Checks.king(x), 55);
        c.due("the greatest", x.paint(99), 5 + 3);
        c.due("the least", x.paint(0), 3 + 3);
    }

    // Promise 7: a PORTRAIT that is not LET.
    // "STATE: it is not LET;"
    static void paintNotLet() {
        LikeLastYears x = Checks.judged(Checks.begun(HAIR, 5, BEARD, 9), "11");
        c.refused(x, "two hairs", STATE, () -> x.paint(97));
        c.refused(x, "two of a beard", STATE, () -> x.paint(15));
        c.due("the king is no older", Checks.king(x), 95);
        c.due("one of each", x.paint(4), 0);
    }

    // Promise 7, by the terms: what the JUDGE wants is the KING a YEAR older; a refused one leaves him.
    // "PAINTING a new one: the KING is a YEAR older first; if it is not LET behind the last one (by the KING as he is then), nothing changes."
    static void paintAgesFirstOrNothingChanges() {
        LikeLastYears x = Checks.judged(Checks.painted(Checks.begun(FEATURE, 5, HAIR, 5), 35), "90!");
        c.due("by the king as he is", x.lets(35, 37), 0);
        c.due("by the king as he is then", x.paint(37), 2);
        c.refused(x, "by the king before", STATE, () -> x.paint(37));
        LikeLastYears y = Checks.judged(Checks.begun(FEATURE, 5, HAIR, 1), "90!");
        c.refused(y, "the last hair", STATE, () -> y.paint(15));
        c.refused(y, "without it, but one apart", STATE, () -> y.paint(5));
        c.due("the king's hair, as it was", y.about(1, 1), 1);
        c.due("count(1)", y.count(1), 1);
    }

    // Promise 7: the sixtieth, and one more.
    // "FULL."
    static void paintFull() {
        LikeLastYears x = Checks.begun(HAIR, 9, BEARD, 0);
        for (int portrait = 2; portrait < 60; portrait++) {
            x.paint(portrait);
        }
        c.due("count(1)", x.count(1), 59);
        c.due("the sixtieth", x.paint(60), 3); // he has no hair, and a beard of 9
        int king = Checks.king(x);
        c.refused(x, "one more", FULL, () -> x.paint(61));
        c.due("the king is no older", Checks.king(x), king);
        c.due("the last", x.line(59), 60);
    }

    // Promise 7: each two of its refusals at once.
    // "STATE: no LINE; OUTSIDE: portrait; STATE: it is not LET; FULL."
    static void paintFirstRefusal() {
        LikeLastYears none = Checks.features(HAIR, 5, BEARD, 5);
        c.refused(none, "no line, outside", STATE, () -> none.paint(100));
        c.refused(none, "no line, below", STATE, () -> none.paint(-1));
        LikeLastYears x = Checks.judged(Checks.begun(FEATURE, 5, FEATURE, 5), "00");
        c.refused(x, "outside, and not let", OUTSIDE, () -> x.paint(155));
        for (int portrait = 1; portrait < 60; portrait++) {
            x.paint(55);
        }
        c.refused(x, "outside, full", OUTSIDE, () -> x.paint(100));
        c.refused(x, "not let, full", STATE, () -> x.paint(56));
        c.refused(x, "let, full", FULL, () -> x.paint(55));
    }

    // ---- promise 8: line

    // Promise 8: the first and the last.
    // "The so-manieth PORTRAIT of THE LINE (from 0)."
    static void lineFirstAndLast() {
        LikeLastYears x = Checks.painted(Checks.begun(HAIR, 5, BEARD, 5), 0, 99);
        c.due("line(0)", x.line(0), 55);
        c.due("line(1)", x.line(1), 0);
        c.due("line(2)", x.line(2), 99);
    }

    // Promise 8: nothing there, one, sixty.
    // "UNKNOWN."
    static void lineUnknown() {
        LikeLastYears none = new LikeLastYears();
        LikeLastYears early = Checks.features(HAIR, 5, BEARD, 5);
        for (int k : Checks.beyond(0, -1)) {
            c.refused(none, "line(" + k + ") of nothing", UNKNOWN, () -> none.line(k));
            c.refused(early, "line(" + k + ") without a line", UNKNOWN, () -> early.line(k));
        }
        LikeLastYears x = Checks.begun(HAIR, 5, BEARD, 5);
        for (int k : Checks.beyond(0, 0)) {
            c.refused(x, "line(" + k + ") of one", UNKNOWN, () -> x.line(k));
        }
        for (int portrait = 1; portrait < 60; portrait++) {
            x.paint(portrait);
        }
        c.due("line(59) of sixty", x.line(59), 59);
        for (int k : Checks.beyond(0, 59)) {
            c.refused(x, "line(" + k + ") of sixty", UNKNOWN, () -> x.line(k));
        }
    }

    // Promise 8, by the terms: the first stays as the KING was, however old he is.
    // "THE LINE is a row of PORTRAITS (60 at most): the first is the KING as he was when it began."
    static void lineOfSixty() {
        LikeLastYears x = Checks.begun(HAIR, 9, BEARD, 3);
        for (int portrait = 1; portrait < 60; portrait++) {
            c.due("paint(" + portrait + ") is taken", x.paint(portrait) >= 0);
        }
        c.due("count(1)", x.count(1), 60);
        c.due("a sixty-first", x.paint(0), FULL);
        c.due("count(1) then", x.count(1), 60);
        c.due("the first", x.line(0), 39);
        for (int k = 1; k < 60; k++) {
            c.due("line(" + k + ")", x.line(k), k);
        }
        c.due("the king now", Checks.king(x), 20);
    }
}
