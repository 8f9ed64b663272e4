/** Promises 21 to 24: person, gate, heap, order. */
public final class PeopleHeapTest {
    private static final int NONE = LikeLastYears.NONE;
    private static final int OUTSIDE = LikeLastYears.OUTSIDE, STATE = LikeLastYears.STATE, FULL = LikeLastYears.FULL;
    private static final Checks c = new Checks();

    public static void main(String[] args) {
        person();
        gateByApart();
        gateByJudges();
        heap();
        order();
        orderOfLikeOnes();
        orderRefused();
        c.end();
    }

    private static void person() {
        LikeLastYears x = Checks.begun(0, 5, 0, 5);
        for (int i = 0; i < 6; i++) {
            c.due("person " + i, x.person(i == 0 ? 0 : 99), i);
            c.due("count(3)", x.count(3), i + 1);
            for (int bad : new int[] {Integer.MIN_VALUE, -1, 100, Integer.MAX_VALUE}) {
                c.refused(x, "person(" + bad + ")", OUTSIDE, () -> x.person(bad));
            }
        }
        c.refused(x, "a seventh", FULL, () -> x.person(55));
        c.due("count(3)", x.count(3), 6);
        c.due("no line, outside", Checks.features(0, 5, 0, 5).person(-1), STATE);
    }

    private static void gateByApart() {
        c.due("no line", Checks.features(0, 5, 0, 5).gate(), STATE);
        c.due("nobody", Checks.begun(0, 5, 0, 5).gate(), NONE);
        c.due("one", Checks.people(Checks.begun(0, 5, 0, 5), 99).gate(), 0);
        c.due("least far", Checks.people(Checks.begun(0, 5, 0, 5), 99, 57, 64, 56, 65).gate(), 3);
        c.due("of like ones the least", Checks.people(Checks.begun(0, 5, 0, 5), 99, 65, 56).gate(), 1);
        c.due("by scars", Checks.people(Checks.begun(2, 5, 0, 5), 56, 85, 95).gate(), 1);
        c.due("by beards", Checks.people(Checks.begun(3, 9, 0, 5), 56, 50, 51).gate(), 1);
        LikeLastYears x = Checks.begun(0, 5, 1, 9);
        x.paint(11);
        c.due("from the last portrait, not from the king", Checks.people(x, 85, 95, 13).gate(), 2);
    }

    private static void gateByJudges() {
        LikeLastYears none = Checks.people(Checks.judged(Checks.begun(0, 5, 0, 5), "00", "11"), 57, 99);
        c.due("no judge lets any", none.gate(), NONE);
        c.due("one judge is enough", Checks.people(none, 44).gate(), 2);
        LikeLastYears most = Checks.people(Checks.judged(Checks.begun(0, 5, 0, 5), "09", "90", "91"), 65, 56, 66, 54);
        // 65: by the first and the third; 56: by the second and the third; 66: by the third
        c.due("most judges, of like ones the least", most.gate(), 0);
        LikeLastYears far = Checks.people(Checks.judged(Checks.begun(0, 5, 0, 5), "09", "09", "11"), 56, 95, 65);
        c.due("most judges ahead of least far", far.gate(), 2);
        LikeLastYears farther = Checks.people(Checks.judged(Checks.begun(0, 5, 0, 5), "09", "09", "11"), 56, 95, 85, 75);
        c.due("least far of those", farther.gate(), 3);
        LikeLastYears king = Checks.begun(1, 5, 0, 5);
        king.paint(55);
        // 65 would be let by the second judge, had the king not lost a hair
        c.due("by the king as he is", Checks.people(Checks.judged(king, "90!", "09!"), 65, 53).gate(), 1);
        LikeLastYears bound = Checks.begun(1, 5, 0, 5);
        bound.paint(55);
        c.due("by the king as he is, none", Checks.people(Checks.judged(bound, "09!"), 55, 54).gate(), NONE);
    }

    private static void heap() {
        LikeLastYears x = Checks.begun(0, 5, 0, 5);
        for (int i = 1; i <= 6; i++) {
            c.due("heap " + i, x.heap(i == 1 ? 0 : 99), i);
            c.due("count(4)", x.count(4), i);
            for (int bad : new int[] {Integer.MIN_VALUE, -1, 100, Integer.MAX_VALUE}) {
                c.refused(x, "heap(" + bad + ")", OUTSIDE, () -> x.heap(bad));
            }
        }
        c.refused(x, "a seventh", FULL, () -> x.heap(55));
        c.due("count(4)", x.count(4), 6);
        c.due("no line, outside", Checks.features(0, 5, 0, 5).heap(-1), STATE);
    }

    private static void order(LikeLastYears x, int[] heap, int cost, int... row) {
        for (int portrait : heap) {
            x.heap(portrait);
        }
        c.due("order(0) of " + heap.length, x.order(0), cost);
        for (int i = 0; i < 6; i++) {
            c.due("order(" + (10 + i) + ") of " + heap.length, x.order(10 + i), i < row.length ? row[i] : NONE);
        }
    }

    private static void order() {
        order(Checks.begun(0, 5, 0, 5), new int[] {}, 0);
        order(Checks.begun(0, 5, 0, 5), new int[] {77}, 0, 0);
        order(Checks.begun(0, 5, 0, 5), new int[] {77, 12}, 11, 0, 1);
        order(Checks.begun(0, 5, 0, 5), new int[] {5, 1, 3}, 4, 0, 2, 1);
        order(Checks.begun(0, 5, 0, 5), new int[] {5, 1, 3, 9, 0, 7}, 9, 3, 5, 0, 2, 1, 4);
        order(Checks.begun(0, 5, 0, 5), new int[] {0, 90, 99, 9, 50, 95}, 27, 0, 4, 1, 5, 2, 3);
        // scars: like ones stand together, whatever their number
        order(Checks.begun(2, 5, 0, 5), new int[] {1, 2, 1, 2, 3, 1}, 18, 0, 2, 5, 1, 3, 4);
        // beards of 8, 2, 9, 0: 8 9 0 2 are 4 apart, the shorter way round
        order(Checks.begun(3, 5, 0, 5), new int[] {8, 2, 9, 0}, 4, 0, 2, 3, 1);
    }

    private static void orderOfLikeOnes() {
        order(Checks.begun(0, 5, 0, 5), new int[] {7, 7, 7, 7, 7, 7}, 0, 0, 1, 2, 3, 4, 5);
        // 0 5 9 costs as 9 5 0 does: the one that begins with the lesser number
        order(Checks.begun(0, 5, 0, 5), new int[] {5, 9, 0}, 9, 1, 0, 2);
        // all 9 apart
        order(Checks.begun(2, 5, 4, 5), new int[] {0, 1, 2, 3}, 27, 0, 1, 2, 3);
        // 3 is between: 0 3 3 6, the like ones by their numbers
        order(Checks.begun(0, 5, 0, 5), new int[] {3, 6, 3, 0}, 6, 1, 0, 2, 3);
    }

    private static void orderRefused() {
        LikeLastYears x = Checks.begun(0, 5, 0, 5);
        x.heap(7);
        for (int bad : new int[] {Integer.MIN_VALUE, -1, 1, 2, 9, 16, Integer.MAX_VALUE}) {
            c.refused(x, "order(" + bad + ")", OUTSIDE, () -> x.order(bad));
        }
        c.due("no line, outside", Checks.features(0, 5, 0, 5).order(1), STATE);
    }
}
