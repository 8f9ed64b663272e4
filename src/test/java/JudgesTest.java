/** Promises 9 to 15: letters, blank, fault, judge, told, lets, strict. */
public final class JudgesTest {
    private static final int NONE = LikeLastYears.NONE, UNKNOWN = LikeLastYears.UNKNOWN;
    private static final int OUTSIDE = LikeLastYears.OUTSIDE, STATE = LikeLastYears.STATE, FULL = LikeLastYears.FULL;
    private static final Checks c = new Checks();

    public static void main(String[] args) {
        letters();
        lettersRefused();
        blank();
        fault();
        judgeReads();
        judgeRefusals();
        told();
        lets();
        letsByKing();
        moreThanHalf();
        strict();
        c.end();
    }

    private static void letters() {
        LikeLastYears x = new LikeLastYears();
        c.due("letters(0)", x.letters(0L), 0);
        c.due("one letter", x.letters(1L), 1);
        c.due("eight letters", x.letters(0x7e7e7e7e7e7e7e7eL), 9);
        c.due("none more", x.letters(0L), 9);
        c.refused(x, "two more", FULL, () -> x.letters(Checks.word("ab")));
        c.due("count(5)", x.count(5), 9);
        c.due("the tenth", x.letters(Checks.word("z")), 10);
        c.due("none more of ten", x.letters(0L), 10);
        c.refused(x, "an eleventh", FULL, () -> x.letters(Checks.word("z")));
        long h = 619;
        for (int i = 0; i < 10; i++) {
            h = 31 * h + (i == 0 ? 1 : i == 9 ? 'z' : 126);
        }
        for (int what = 0; what < 8; what++) {
            h = 31 * h + (what == 5 ? 10 : 0);
        }
        c.due("the letters, in order", x.digest(), h);
    }

    private static void lettersRefused() {
        LikeLastYears x = new LikeLastYears();
        x.letters(Checks.word("abcdefg"));
        long[] bad = {127L, 128L, 255L, -1L, Long.MIN_VALUE, Long.MAX_VALUE, 127L << 56, 128L << 56,
            0x100L, 0x110011L, 1L << 56, 0x7f00L, 0x01000001L, 0x8041L};
        for (long w : bad) {
            c.refused(x, "letters(" + w + ")", OUTSIDE, () -> x.letters(w));
        }
        c.due("126 in the highest byte is told, but full", x.letters(0x7e01010101010101L), FULL);
        x.blank();
        c.due("126 in the highest byte", x.letters(0x7e01010101010101L), 8);
        x.letters(Checks.word("ab"));
        c.refused(x, "outside, ahead of full", OUTSIDE, () -> x.letters(0x7fL));
    }

    private static void blank() {
        LikeLastYears x = Checks.begun(0, 1, 0, 2);
        x.letters(Checks.word("12345678"));
        x.letters(Checks.word("90"));
        c.due("blank() of ten", x.blank(), 10);
        c.due("count(5)", x.count(5), 0);
        c.due("blank() of none", x.blank(), 0);
        x.letters(Checks.word("1"));
        c.due("blank() of one", x.blank(), 1);
    }

    private static int faultOf(int features, String text) {
        LikeLastYears x = new LikeLastYears();
        for (int f = 0; f < features; f++) {
            x.feature(0, 0);
        }
        x.letters(Checks.word(text.substring(0, Math.min(8, text.length()))));
        x.letters(Checks.word(text.substring(Math.min(8, text.length()))));
        return x.fault();
    }

    private static void fault(int features, String text, int want) {
        c.due("fault() of '" + text + "' with " + features, faultOf(features, text), want);
    }

    private static void fault() {
        fault(2, "", 0);
        fault(2, "0", 1);
        fault(2, "09", 2);
        fault(2, "099", 2);
        fault(2, "x9", 0);
        fault(2, "/9", 0);
        fault(2, ":9", 0);
        fault(2, "9/", 1);
        fault(2, "9:", 1);
        fault(2, "+", 0);
        fault(2, "1+", 1);
        fault(2, "1!", 1);
        fault(2, "12+", 3);
        fault(2, "12+0", 3);
        fault(2, "12+1", 4);
        fault(2, "12+9", 4);
        fault(2, "12+:", 3);
        fault(2, "12++", 3);
        fault(2, "12+!", 3);
        fault(2, "12!", 3);
        fault(2, "12!!", 3);
        fault(2, "12!+", 3);
        fault(2, "12+1!", 5);
        fault(2, "12+1!!", 5);
        fault(2, "12+12", 4);
        fault(2, "12+1+", 4);
        fault(2, "12+1!3", 5);
        fault(2, "12 ", 2);
        fault(3, "12+", 2);
        fault(3, "123+4!", 6);
        fault(4, "1234", 4);
        fault(4, "1234+5!", 7);
        fault(4, "1234+5!678", 7);
        fault(4, "12345", 4);
        fault(4, "12", 2);
        fault(1, "1+2!", 4);
        fault(1, "12", 1);
        fault(0, "1", 0);
        fault(0, "+1!", 3);
        fault(0, "!", 1);
    }

    private static void judgeReads() {
        LikeLastYears x = Checks.begun(0, 1, 0, 2, 0, 3, 0, 4);
        String[] texts = {"0000", "9876", "1234+1", "1234!", "5550+9!"};
        for (int j = 0; j < texts.length; j++) {
            c.due("letters of " + texts[j], x.letters(Checks.word(texts[j])), texts[j].length());
            c.due("judge() " + texts[j], x.judge(), j);
            c.due("the page is empty then", x.count(5), 0);
            c.due("count(2)", x.count(2), j + 1);
        }
        c.due("told(4, 3)", x.told(4, 3), 0);
        c.due("told(4, 4)", x.told(4, 4), 9);
        c.due("told(5, 0)", x.told(5, 0), UNKNOWN);
        x.letters(Checks.word("1111"));
        c.refused(x, "a sixth judge", FULL, () -> x.judge());
        c.due("the page is as it was", x.count(5), 4);
        x.letters(Checks.word("x"));
        c.refused(x, "a sixth that is none", STATE, () -> x.judge());
    }

    private static void judgeRefusals() {
        LikeLastYears early = Checks.features(0, 1, 0, 2);
        early.letters(Checks.word("11"));
        c.refused(early, "no line", STATE, () -> early.judge());
        early.begin();
        c.due("the same page, with a line", early.judge(), 0);
        for (String text : new String[] {"", "1", "123", "12+", "12+0", "+1", "!", "12!1", "1!", "12!!", "12+1+", "ab"}) {
            LikeLastYears x = Checks.begun(0, 1, 0, 2);
            x.letters(Checks.word(text));
            c.refused(x, "judge() of '" + text + "'", STATE, () -> x.judge());
            c.due("the page stays", x.count(5), text.length());
        }
    }

    private static void told() {
        LikeLastYears x = Checks.begun(0, 1, 0, 2, 0, 3);
        Checks.judge(x, "190");
        Checks.judge(x, "208+7!");
        Checks.judge(x, "208!");
        Checks.judge(x, "208+1");
        int[][] due = {{1, 9, 0, NONE, NONE, 0}, {2, 0, 8, NONE, 7, 1}, {2, 0, 8, NONE, NONE, 1}, {2, 0, 8, NONE, 1, 0}};
        for (int j = 0; j < due.length; j++) {
            for (int what = 0; what < 6; what++) {
                c.due("told(" + j + ", " + what + ")", x.told(j, what), due[j][what]);
            }
        }
        LikeLastYears two = Checks.begun(0, 1, 0, 2);
        Checks.judge(two, "12");
        c.due("told(0, 2) of two", two.told(0, 2), NONE);
        LikeLastYears four = Checks.begun(0, 1, 0, 2, 0, 3, 0, 4);
        Checks.judge(four, "1234");
        c.due("told(0, 3) of four", four.told(0, 3), 4);
        for (int bad : new int[] {Integer.MIN_VALUE, -1, 4, 5, Integer.MAX_VALUE}) {
            c.refused(x, "told(" + bad + ", 0)", UNKNOWN, () -> x.told(bad, 0));
            c.refused(x, "told(" + bad + ", 6)", UNKNOWN, () -> x.told(bad, 6));
        }
        for (int bad : new int[] {Integer.MIN_VALUE, -1, 6, Integer.MAX_VALUE}) {
            c.refused(x, "told(0, " + bad + ")", OUTSIDE, () -> x.told(0, bad));
        }
    }

    /** How many of one judge let it pass. */
    private static int letBy(String text, int old, int portrait) {
        LikeLastYears x = Checks.begun(0, 5, 1, 5, 2, 5, 3, 5);
        Checks.judge(x, text);
        return x.lets(old, portrait);
    }

    private static void lets() {
        c.due("feature by 2 of 2", letBy("2000", 5555, 5557), 1);
        c.due("feature by 3 of 2", letBy("2000", 5555, 5558), 0);
        c.due("less by 2 of 2", letBy("2000", 5555, 5553), 1);
        c.due("hair by 1 of 0", letBy("9099", 5555, 5565), 0);
        c.due("scar by 1 of 8", letBy("9989", 5555, 5655), 0);
        c.due("scar by 1 of 9", letBy("9999", 5555, 5655), 1);
        c.due("beard round by 1", letBy("0001", 9555, 555), 1);
        c.due("beard round by 2 of 1", letBy("0001", 9555, 1555), 0);
        c.due("three apart of +1", letBy("9999+1", 5555, 5567), 1);
        c.due("four apart of +1", letBy("9999+1", 5555, 5577), 0);
        c.due("27 apart of +9", letBy("9999+9", 0, 999), 1);
        c.due("28 apart of +9", letBy("9999+9", 0, 1999), 0);
        c.due("28 apart without tens", letBy("9999", 0, 1999), 1);
        LikeLastYears x = Checks.begun(0, 5, 1, 5);
        c.due("no judges", x.lets(0, 99), 0);
        for (String text : new String[] {"99", "11", "10", "01", "99+1"}) {
            Checks.judge(x, text);
        }
        c.due("lets(55, 55)", x.lets(55, 55), 5);
        c.due("lets(55, 56)", x.lets(55, 56), 4);
        c.due("lets(55, 66)", x.lets(55, 66), 3);
        c.due("lets(55, 58)", x.lets(55, 58), 2);
        c.due("lets(55, 59)", x.lets(55, 59), 1);
        for (int bad : new int[] {Integer.MIN_VALUE, -1, 100, Integer.MAX_VALUE}) {
            c.refused(x, "lets(" + bad + ", 0)", OUTSIDE, () -> x.lets(bad, 0));
            c.refused(x, "lets(0, " + bad + ")", OUTSIDE, () -> x.lets(0, bad));
        }
        c.due("no line, outside", Checks.features(0, 1, 0, 1).lets(-1, 0), STATE);
    }

    private static void letsByKing() {
        c.due("! and like the king", letBy("0999!", 5555, 5565), 1);
        c.due("! and an old one unlike him", letBy("0999!", 5554, 5554), 0);
        c.due("the same without !", letBy("0999", 5554, 5554), 1);
        c.due("! binds where the digit is 0 alone", letBy("1999!", 5555, 5556), 1);
        c.due("! and like him in both such features", letBy("0909!", 1515, 1515), 1);
        c.due("! and unlike him in the second of them", letBy("0909!", 5155, 5155), 0);
        c.due("! and tens", letBy("0999+1!", 5555, 5595), 0);
        LikeLastYears x = Checks.begun(1, 5, 0, 5);
        Checks.judge(x, "09!");
        c.due("as the king is: 5", x.lets(55, 55), 1);
        c.due("as the king is not: 4", x.lets(54, 54), 0);
        Checks.judge(x, "99");
        Checks.judge(x, "99");
        x.paint(55);
        c.due("as the king is: 4", x.lets(54, 54), 3);
        c.due("as the king was: 5", x.lets(55, 55), 2);
    }

    private static void moreThanHalf() {
        // paint(1) behind 0 is let by "99" and not by "00"
        String[][] benches = {{"00"}, {"99"}, {"00", "99"}, {"00", "99", "99"}, {"00", "00", "99"},
            {"00", "00", "99", "99"}, {"00", "99", "99", "99"}, {"00", "00", "99", "99", "99"}, {"00", "00", "00", "99", "99"}};
        int[] let = {0, 1, 0, 1, 0, 0, 1, 1, 0};
        for (int i = 0; i < benches.length; i++) {
            LikeLastYears x = Checks.begun(0, 0, 0, 0);
            for (String text : benches[i]) {
                Checks.judge(x, text);
            }
            c.due("bench " + i, x.paint(1), let[i] == 1 ? 1 : STATE);
        }
        c.due("without judges", Checks.begun(0, 0, 0, 0).paint(99), 18);
    }

    private static int strictOf(LikeLastYears x, String... texts) {
        for (String text : texts) {
            Checks.judge(x, text);
        }
        return x.strict();
    }

    private static void strict() {
        c.due("no line", Checks.features(0, 5, 0, 5).strict(), STATE);
        c.due("no judges", Checks.begun(0, 5, 0, 5).strict(), NONE);
        c.due("one judge", strictOf(Checks.begun(0, 5, 0, 5), "99"), 0);
        c.due("of like ones the least", strictOf(Checks.begun(0, 5, 0, 5), "12", "21"), 0);
        c.due("the fewest", strictOf(Checks.begun(0, 5, 0, 5), "99", "22", "11", "33", "11"), 2);
        // behind 99: "80" lets 9 pass, "12" 2 * 3, "51" 6 * 2
        c.due("at the edge of sizes", strictOf(Checks.begun(0, 9, 0, 9), "80", "51", "12"), 2);
        // "11" and "40" keep the scar: 3 and 1 pass; "89" keeps it, too: 10
        c.due("a scar is strict", strictOf(Checks.begun(2, 5, 0, 5), "11", "89", "40"), 2);
        // "99+1" lets all within 3: 25; "22" 25, too; "12" 15
        c.due("tens as strict as digits", strictOf(Checks.begun(0, 5, 0, 5), "99+1", "22"), 0);
        c.due("digits as strict as tens", strictOf(Checks.begun(0, 5, 0, 5), "22", "99+1"), 0);
        c.due("tens stricter", strictOf(Checks.begun(0, 5, 0, 5), "32", "99+1"), 1);
        c.due("digits stricter", strictOf(Checks.begun(0, 5, 0, 5), "99+1", "31"), 1);
        // of three features "111" lets 27 pass, "099" 100 and "990" with tens of 1, within 3, 25
        c.due("of three", strictOf(Checks.begun(0, 5, 0, 5, 0, 5), "099", "111", "990+1"), 2);
        // the king has grown older than his portrait: "09!" lets none pass, "00" one
        LikeLastYears x = Checks.begun(1, 5, 0, 5);
        x.paint(55);
        c.due("! lets none pass", strictOf(x, "00", "09!"), 1);
        LikeLastYears y = Checks.begun(1, 5, 0, 5);
        y.paint(54);
        c.due("! by the king as he is", strictOf(y, "02", "01!"), 1);
        c.due("! does not matter there", strictOf(Checks.begun(1, 5, 0, 5), "09", "09!"), 0);
    }
}
