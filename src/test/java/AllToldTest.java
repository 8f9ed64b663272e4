/** Promises 25 to 28: image, restore, count, digest. */
public final class AllToldTest {
    private static final int OUTSIDE = LikeLastYears.OUTSIDE, STATE = LikeLastYears.STATE;
    private static final Checks c = new Checks();

    public static void main(String[] args) {
        refusals();
        keeps();
        latest();
        keepsNotTheRest();
        afterAFullLine();
        count();
        digestWithoutLine();
        digestWithLine();
        c.end();
    }

    private static void refusals() {
        LikeLastYears early = Checks.features(0, 5, 0, 5);
        c.refused(early, "image() without a line", STATE, () -> early.image());
        c.refused(early, "restore() without a line", STATE, () -> early.restore());
        early.begin();
        c.refused(early, "restore() without an image", STATE, () -> early.restore());
        c.due("image() with a line", early.image(), 1);
        c.due("restore()", early.restore(), 1);
    }

    private static void keeps() {
        LikeLastYears x = Checks.begun(1, 7, 3, 8);
        x.paint(11);
        x.person(22);
        x.person(23);
        x.heap(33);
        c.due("image()", x.image(), 2);
        long kept = x.digest();
        x.paint(44);
        x.paint(45);
        x.person(55);
        x.heap(66);
        x.heap(67);
        c.due("all has grown", x.digest() != kept);
        c.due("restore()", x.restore(), 2);
        c.due("all is as it was", x.digest(), kept);
        c.due("hair", x.about(0, 1), 6);
        c.due("beard", x.about(1, 1), 9);
        c.due("line(1)", x.line(1), 11);
        c.due("line(2)", x.line(2), LikeLastYears.UNKNOWN);
        c.due("count(3)", x.count(3), 2);
        c.due("count(4)", x.count(4), 1);
        x.paint(88);
        x.person(77);
        x.heap(99);
        c.due("other ones come there", x.line(2), 88);
        c.due("restore() again", x.restore(), 2);
        c.due("all is as it was, again", x.digest(), kept);
    }

    private static void latest() {
        LikeLastYears x = Checks.begun(1, 7, 3, 8);
        x.image();
        x.paint(11);
        x.heap(5);
        c.due("a later image()", x.image(), 2);
        long kept = x.digest();
        x.paint(12);
        x.restore();
        c.due("the latest", x.digest(), kept);
        c.due("restore() at once again", x.restore(), 2);
        c.due("the latest, again", x.digest(), kept);
    }

    private static void keepsNotTheRest() {
        LikeLastYears x = Checks.begun(0, 5, 0, 5);
        Checks.judge(x, "11");
        x.letters(Checks.word("22"));
        x.image();
        x.judge();
        x.letters(Checks.word("333"));
        x.truth(0);
        x.restore();
        c.due("judges stay", x.count(2), 2);
        c.due("the page stays", x.count(5), 3);
        c.due("truth() was done", x.count(6), 1);
        c.due("the judge as told", x.told(1, 0), 2);
    }

    private static void afterAFullLine() {
        LikeLastYears x = Checks.begun(3, 0, 0, 5);
        x.image();
        for (int i = 1; i < 60; i++) {
            x.paint(0);
        }
        c.due("full", x.paint(0), LikeLastYears.FULL);
        x.restore();
        c.due("there is room again", x.paint(51), 0);
        c.due("count(1)", x.count(1), 2);
        for (int i = 2; i < 60; i++) {
            x.paint(0);
        }
        c.due("image() of a full line", x.image(), 60);
        c.due("restore() of a full line", x.restore(), 60);
    }

    private static void count() {
        LikeLastYears x = Checks.begun(1, 7, 3, 8, 0, 1);
        x.paint(111);
        x.paint(222);
        Checks.judge(x, "999");
        x.person(1);
        x.person(1);
        x.person(1);
        x.heap(1);
        x.heap(1);
        x.letters(Checks.word("wxyz"));
        for (int i = 0; i < 5; i++) {
            x.truth(1);
        }
        // he is 105 now: a hair of 5, a beard of 0, a feature of 1
        int[] due = {3, 3, 1, 3, 2, 4, 5, 3 + 2 + 1};
        for (int what = 0; what < 8; what++) {
            c.due("count(" + what + ")", x.count(what), due[what]);
        }
        for (int bad : new int[] {Integer.MIN_VALUE, -1, 8, Integer.MAX_VALUE}) {
            c.refused(x, "count(" + bad + ")", OUTSIDE, () -> x.count(bad));
        }
        c.due("count(7) without a line", Checks.features(0, 1, 0, 2).count(7), 0);
    }

    private static long digestOf(long... numbers) {
        long h = 619;
        for (long n : numbers) {
            h = 31 * h + n;
        }
        return h;
    }

    private static void digestWithoutLine() {
        LikeLastYears x = Checks.features(4, 7);
        x.letters(Checks.word("+1"));
        c.due("digest() without a line", x.digest(), digestOf(4, 7, -1, '+', '1', 1, 0, 0, 0, 0, 2, 0, 0));
    }

    private static void digestWithLine() {
        LikeLastYears x = Checks.begun(0, 5, 1, 7);
        x.paint(64);
        Checks.judge(x, "99");
        Checks.judge(x, "19+3!");
        x.person(11);
        x.person(65);
        x.heap(9);
        x.heap(1);
        x.heap(3);
        x.truth(0);
        x.letters(Checks.word("!"));
        c.due("digest() with a line", x.digest(), digestOf(
            0, 5, 4, 1, 6, 6, // features
            75, 64, // the line
            9, 9, -1, -1, -1, 0, 1, 9, -1, -1, 3, 1, // judges
            1, 1, // strict, at the gate
            8, 0, 2, 1, -1, -1, -1, // order
            13, 1, // span of 2, slips from 75 to 65
            '!', 2, 2, 2, 2, 3, 1, 1, 1));
        LikeLastYears bare = Checks.begun(0, 5, 3, 0);
        c.due("digest() of a bare line", bare.digest(), digestOf(
            0, 5, 5, 3, 0, 0, 50 / 10, -1, -1, 0, -1, -1, -1, -1, -1, -1, 13, 0, 2, 1, 0, 0, 0, 0, 0, 0));
    }
}
