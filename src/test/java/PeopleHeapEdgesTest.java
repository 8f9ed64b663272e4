/**
 * Promises 21 to 24 at the edges that the document names. Each test's remark tells its promise and
 * quotes the sentence; QuotesTest looks whether the document has it.
 */
public final class PeopleHeapEdgesTest {
    private static final int NONE = LikeLastYears.NONE;
    private static final int OUTSIDE = LikeLastYears.OUTSIDE, STATE = LikeLastYears.STATE, FULL = LikeLastYears.FULL;
    private static final int FEATURE = 0, HAIR = 1, SCAR = 2, BEARD = 3;
    private static final Checks c = new Checks();

    public static void main(String[] args) throws ReflectiveOperationException {
        c.each(PeopleHeapEdgesTest.class);
        c.end();
    }

    private static LikeLastYears plainBegun() {
        return Checks.begun(FEATURE, 5, FEATURE, 5);
    }

    private static LikeLastYears[] withoutLine() {
        return new LikeLastYears[] {new LikeLastYears(), Checks.features(FEATURE, 5, FEATURE, 5)};
    }

    // Promise 21, by the terms: all four calls of this part, with nothing there and with two FEATURES.
    // "people, a heap (STATE: no LINE)"
    static void noLine() {
        for (LikeLastYears x : withoutLine()) {
            c.refused(x, "person(0)", STATE, () -> x.person(0));
            c.refused(x, "gate()", STATE, () -> x.gate());
            c.refused(x, "heap(0)", STATE, () -> x.heap(0));
            c.refused(x, "order(0)", STATE, () -> x.order(0));
            c.refused(x, "order(10)", STATE, () -> x.order(10));
            c.due("count(3)", x.count(3), 0);
            c.due("count(4)", x.count(4), 0);
        }
    }

    // ---- promise 21: person

    // Promise 21: from the first to the last, the same one too.
    // "A PERSON (a PORTRAIT): its number."
    static void personNumbers() {
        LikeLastYears x = plainBegun();
        int[] portraits = {0, 99, 99, 55, 0, 1};
        for (int number = 0; number < 6; number++) {
            c.due("person " + number, x.person(portraits[number]), number);
            c.due("count(3)", x.count(3), number + 1);
        }
    }

    // Promise 21: the least and the greatest, and beyond.
    // "STATE; OUTSIDE; FULL."
    static void personOutside() {
        LikeLastYears x = plainBegun();
        for (int bad : Checks.noPortraits(2)) {
            c.refused(x, "person(" + bad + ")", OUTSIDE, () -> x.person(bad));
        }
        c.due("the least", x.person(0), 0);
        c.due("the greatest", x.person(99), 1);
        LikeLastYears four = Checks.begun(FEATURE, 5, HAIR, 5, SCAR, 5, BEARD, 5);
        for (int bad : Checks.noPortraits(4)) {
            c.refused(four, "person(" + bad + ") of four", OUTSIDE, () -> four.person(bad));
        }
        c.due("the greatest of four", four.person(9999), 0);
    }

    // Promise 21: the sixth, and one more, who would be taken for the KING.
    // "STATE; OUTSIDE; FULL."
    static void personFull() {
        LikeLastYears x = Checks.people(plainBegun(), 0, 1, 2, 3, 4);
        c.due("a sixth", x.person(5), 5);
        c.due("gate()", x.gate(), 5);
        c.refused(x, "a seventh", FULL, () -> x.person(55));
        c.due("count(3)", x.count(3), 6);
        c.due("gate() still", x.gate(), 5);
    }

    // Promise 21: each two of its refusals at once.
    // "STATE; OUTSIDE; FULL."
    static void personFirstRefusal() {
        for (LikeLastYears early : withoutLine()) {
            c.refused(early, "no line, below", STATE, () -> early.person(-1));
            c.refused(early, "no line, above", STATE, () -> early.person(10000));
        }
        LikeLastYears x = Checks.people(plainBegun(), 0, 1, 2, 3, 4, 5);
        c.refused(x, "below, full", OUTSIDE, () -> x.person(-1));
        c.refused(x, "above, full", OUTSIDE, () -> x.person(100));
    }

    // ---- promise 22: gate

    // Promise 22: nobody is there.
    // "AT THE GATE; NONE."
    static void gateNobodyThere() {
        c.due("without judges", plainBegun().gate(), NONE);
        c.due("with judges", Checks.judged(plainBegun(), "99", "00").gate(), NONE);
        c.due("one is there", Checks.people(plainBegun(), 0).gate(), 0);
    }

    // Promise 22: no LINE.
    // "STATE."
    static void gateWithoutLine() {
        for (LikeLastYears x : withoutLine()) {
            c.refused(x, "gate()", STATE, () -> x.gate());
        }
    }

    // Promise 22, by the terms: one JUDGE more, of like ones one nearer, of like ones the number; the sixth.
    // "AT THE GATE: of PEOPLE (6 at most, PORTRAITS) whom most JUDGES let pass behind the last PORTRAIT, of like ones who is least far APART from it, then the least;"
    static void gateMostThenNearestThenLeast() {
        String[] judges = {"22", "33", "44"};
        // 88 passes by two of the three, 77 by all, 99 by one.
        c.due("one judge more", Checks.people(Checks.judged(plainBegun(), judges), 99, 88, 77).gate(), 2);
        c.due("farther, but one judge more", Checks.people(Checks.judged(plainBegun(), judges), 58, 77).gate(), 1);
        c.due("as many, one nearer", Checks.people(Checks.judged(plainBegun(), judges), 77, 76).gate(), 1);
        c.due("as many, as near", Checks.people(Checks.judged(plainBegun(), judges), 99, 76, 67, 34).gate(), 1);
        c.due("the sixth", Checks.people(Checks.judged(plainBegun(), judges), 0, 0, 99, 88, 77, 55).gate(), 5);
        c.due("six alike", Checks.people(Checks.judged(plainBegun(), judges), 55, 55, 55, 55, 55, 55).gate(), 0);
        LikeLastYears last = Checks.judged(Checks.painted(plainBegun(), 0), judges);
        c.due("behind the last, not the first", Checks.people(last, 55, 11).gate(), 1);
    }

    // Promise 22, by the terms: by half of them, by fewer than half, by one, by none.
    // "nobody, if no JUDGE lets any of them pass"
    static void gateNobodyPasses() {
        LikeLastYears x = Checks.people(Checks.judged(plainBegun(), "00", "00", "00", "00", "33"), 59, 0);
        c.due("none", x.gate(), NONE);
        Checks.people(x, 58);
        c.due("one of five is enough", x.gate(), 2);
        LikeLastYears king = Checks.judged(Checks.painted(Checks.begun(HAIR, 5, FEATURE, 5), 55), "09!");
        c.due("none, by the king as he is", Checks.people(king, 55, 54).gate(), NONE);
    }

    // Promise 22, by the terms: by the KING now, not by the one of the next YEAR nor by the first.
    // "A JUDGE LETS a new PORTRAIT pass behind an old one, if all that is so."
    static void gateByTheKingAsHeIs() {
        LikeLastYears begun = Checks.judged(Checks.begun(HAIR, 5, FEATURE, 5), "09!");
        c.due("by the king of the beginning", Checks.people(begun, 54, 45).gate(), 1);
        LikeLastYears older = Checks.judged(Checks.painted(Checks.begun(HAIR, 5, FEATURE, 5), 54), "09!");
        c.due("by the king a year older", Checks.people(older, 55, 53, 44).gate(), 2);
        LikeLastYears unlike = Checks.judged(Checks.painted(Checks.begun(HAIR, 5, FEATURE, 5), 53), "09!");
        c.due("like the king of the next year", Checks.people(unlike, 53, 43).gate(), NONE);
    }

    // Promise 22, by the terms: as far as may be, as near as may be, alike.
    // "(without JUDGES who is least far APART)."
    static void gateWithoutJudges() {
        c.due("as far as may be", Checks.people(Checks.begun(FEATURE, 0, FEATURE, 0), 99).gate(), 0);
        c.due("nearest", Checks.people(plainBegun(), 99, 57, 56, 66).gate(), 2);
        c.due("as near", Checks.people(plainBegun(), 99, 65, 56, 45, 54).gate(), 1);
        c.due("round", Checks.people(Checks.begun(BEARD, 0, FEATURE, 5), 52, 59, 51).gate(), 1);
        c.due("a scar is nine off", Checks.people(Checks.begun(SCAR, 0, FEATURE, 0), 1, 80).gate(), 1);
    }

    // ---- promise 23: heap

    // Promise 23: from the first to the last, the same one too.
    // "A PORTRAIT without a date comes to THE HEAP: how many."
    static void heapHowMany() {
        LikeLastYears x = plainBegun();
        int[] portraits = {99, 0, 0, 55, 99, 1};
        for (int many = 1; many <= 6; many++) {
            c.due("heap " + many, x.heap(portraits[many - 1]), many);
            c.due("count(4)", x.count(4), many);
        }
    }

    // Promise 23: the least and the greatest, and beyond.
    // "STATE; OUTSIDE; FULL."
    static void heapOutside() {
        LikeLastYears x = plainBegun();
        for (int bad : Checks.noPortraits(2)) {
            c.refused(x, "heap(" + bad + ")", OUTSIDE, () -> x.heap(bad));
        }
        c.due("the least", x.heap(0), 1);
        c.due("the greatest", x.heap(99), 2);
        LikeLastYears four = Checks.begun(FEATURE, 5, HAIR, 5, SCAR, 5, BEARD, 5);
        for (int bad : Checks.noPortraits(4)) {
            c.refused(four, "heap(" + bad + ") of four", OUTSIDE, () -> four.heap(bad));
        }
        c.due("the greatest of four", four.heap(9999), 1);
    }

    // Promise 23: the sixth, and one more.
    // "STATE; OUTSIDE; FULL."
    static void heapFull() {
        LikeLastYears x = Checks.heaped(plainBegun(), 0, 1, 2, 3, 4);
        c.due("a sixth", x.heap(5), 6);
        c.due("order(0)", x.order(0), 5);
        c.refused(x, "a seventh", FULL, () -> x.heap(99));
        c.due("count(4)", x.count(4), 6);
        c.due("order(0) still", x.order(0), 5);
    }

    // Promise 23: each two of its refusals at once.
    // "STATE; OUTSIDE; FULL."
    static void heapFirstRefusal() {
        for (LikeLastYears early : withoutLine()) {
            c.refused(early, "no line, below", STATE, () -> early.heap(-1));
            c.refused(early, "no line, above", STATE, () -> early.heap(10000));
        }
        LikeLastYears x = Checks.heaped(plainBegun(), 0, 1, 2, 3, 4, 5);
        c.refused(x, "below, full", OUTSIDE, () -> x.heap(-1));
        c.refused(x, "above, full", OUTSIDE, () -> x.heap(100));
    }

    // ---- promise 24: order

    private static void order(String of, LikeLastYears x, int all, int... row) {
        c.due(of + ": order(0)", x.order(0), all);
        for (int i = 0; i < 6; i++) {
            c.due(of + ": order(" + (10 + i) + ")", x.order(10 + i), i < row.length ? row[i] : NONE);
        }
    }

    // Promise 24: THE HEAP grows from nothing to six.
    // "ORDER: what = 0 how far APART all together, 10 and i the number (in THE HEAP) of the so-manieth (NONE)."
    static void orderOfNoneToSix() {
        LikeLastYears x = plainBegun();
        order("nothing", x, 0);
        order("one", Checks.heaped(x, 4), 0, 0);
        order("two", Checks.heaped(x, 1), 3, 0, 1);
        order("three", Checks.heaped(x, 9), 8, 1, 0, 2);
        order("four", Checks.heaped(x, 2), 8, 1, 3, 0, 2);
        order("five", Checks.heaped(x, 99), 17, 1, 3, 0, 2, 4);
        order("six", Checks.heaped(x, 59), 17, 1, 3, 0, 2, 5, 4);
    }

    // Promise 24, by the terms: the seventh is not taken, a dear row, and one that costs nothing.
    // "THE HEAP: PORTRAITS without dates (6 at most)."
    static void heapOfSix() {
        LikeLastYears dear = Checks.begun(SCAR, 5, SCAR, 5, SCAR, 5, SCAR, 5);
        order("all unlike", Checks.heaped(dear, 0, 1111, 2222, 3333, 4444, 5555, 6666), 180, 0, 1, 2, 3, 4, 5);
        c.due("count(4)", dear.count(4), 6);
        LikeLastYears same = Checks.heaped(Checks.begun(SCAR, 5, SCAR, 5), 77, 77, 77, 77, 77, 77, 77);
        order("all the same", same, 0, 0, 1, 2, 3, 4, 5);
    }

    // Promise 24, by the terms: not from one to the nearest, but all together.
    // "ORDER: a row of all of them in which those side by side are least far APART, all together;"
    static void orderAllTogether() {
        // From the first to the nearest each time, 4 5 6 0, costs 8; 6 5 4 0 costs 6.
        order("from an end", Checks.heaped(plainBegun(), 4, 5, 6, 0), 6, 2, 1, 0, 3);
        order("round", Checks.heaped(Checks.begun(BEARD, 5, FEATURE, 5), 7, 3, 9, 0, 1), 6, 0, 2, 3, 4, 1);
        order("scars", Checks.heaped(Checks.begun(SCAR, 5, FEATURE, 5), 1, 2, 1, 2), 9, 0, 2, 1, 3);
    }

    // Promise 24, by the terms: a row and its turned one; like PORTRAITS; rows that part at the third place.
    // "of like ones the first (by the number of the first one, then the second, ..)."
    static void orderOfLikeRows() {
        order("a row and its turned one", Checks.heaped(plainBegun(), 5, 9, 0), 9, 1, 0, 2);
        order("like portraits", Checks.heaped(plainBegun(), 3, 6, 3, 0), 6, 1, 0, 2, 3);
        order("all as far", Checks.heaped(Checks.begun(SCAR, 5, FEATURE, 5), 3, 2, 1, 0), 27, 0, 1, 2, 3);
        // A square of 0, 1, 11, 10: each way round costs 3, from the least to the lesser of its neighbours.
        order("a square", Checks.heaped(plainBegun(), 11, 0, 1, 10), 3, 0, 2, 1, 3);
        // Of scars 6 and 4 are as far from 5 and from each other.
        order("the third place", Checks.heaped(Checks.begun(SCAR, 5, FEATURE, 5), 5, 5, 6, 4), 18, 0, 1, 2, 3);
    }

    // Promise 24: between 0 and 10, below, above; the greatest.
    // "STATE; OUTSIDE: what (0, 10 to 15)."
    static void orderOutside() {
        LikeLastYears x = Checks.heaped(plainBegun(), 1, 2, 3, 4, 5, 6);
        c.due("order(10)", x.order(10), 0);
        c.due("order(15)", x.order(15), 5);
        for (int what : Checks.beyond(0, 0)) {
            c.refused(x, "order(" + what + ")", OUTSIDE, () -> x.order(what));
        }
        for (int what : Checks.beyond(10, 15)) {
            c.refused(x, "order(" + what + ")", OUTSIDE, () -> x.order(what));
        }
        LikeLastYears empty = plainBegun();
        c.due("order(15) of nothing", empty.order(15), NONE);
        c.refused(empty, "order(16) of nothing", OUTSIDE, () -> empty.order(16));
        c.refused(empty, "order(9) of nothing", OUTSIDE, () -> empty.order(9));
    }

    // Promise 24: no LINE alone, and both refusals at once.
    // "STATE; OUTSIDE: what (0, 10 to 15)."
    static void orderFirstRefusal() {
        for (LikeLastYears x : withoutLine()) {
            c.refused(x, "order(0)", STATE, () -> x.order(0));
            c.refused(x, "order(1)", STATE, () -> x.order(1));
            c.refused(x, "order(16)", STATE, () -> x.order(16));
        }
    }
}
