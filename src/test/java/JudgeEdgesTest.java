/**
 * Promises 9 to 15 at the edges that the document names. Each test's remark tells its promise and
 * quotes the sentence; QuotesTest looks whether the document has it.
 */
public final class JudgeEdgesTest {
    private static final int NONE = LikeLastYears.NONE, UNKNOWN = LikeLastYears.UNKNOWN;
    private static final int OUTSIDE = LikeLastYears.OUTSIDE, STATE = LikeLastYears.STATE, FULL = LikeLastYears.FULL;
    private static final int FEATURE = 0, HAIR = 1, SCAR = 2, BEARD = 3, CROWN = 4;
    private static final Checks c = new Checks();

    public static void main(String[] args) throws ReflectiveOperationException {
        c.each(JudgeEdgesTest.class);
        c.end();
    }

    /** FEATURES that are all 5, of the KIND that has no peculiarity. */
    private static LikeLastYears plain(int features) {
        LikeLastYears x = new LikeLastYears();
        for (int f = 0; f < features; f++) {
            x.feature(FEATURE, 5);
        }
        return x;
    }

    private static LikeLastYears plainBegun(int features) {
        LikeLastYears x = plain(features);
        x.begin();
        return x;
    }

    /** With a text of up to sixteen letters on THE PAGE, if it takes them. */
    private static LikeLastYears written(LikeLastYears x, String text) {
        int half = Math.min(8, text.length());
        x.letters(Checks.word(text.substring(0, half)));
        x.letters(Checks.word(text.substring(half)));
        return x;
    }

    // ---- promise 9: letters

    // Promise 9: none, one, eight.
    // "Letters come behind THE PAGE, up to eight, told by their codes in the bytes of w, the lowest byte first, until a byte that is 0: how many THE PAGE has."
    static void lettersNoneOneEight() {
        LikeLastYears x = new LikeLastYears();
        c.due("none", x.letters(0L), 0);
        c.due("one", x.letters(Checks.word("1")), 1);
        x.blank();
        c.due("eight", x.letters(Checks.word("12345678")), 8);
        c.due("none more", x.letters(0L), 8);
        LikeLastYears two = Checks.begun(FEATURE, 5, HAIR, 5);
        two.letters(Checks.word("1"));
        two.letters(Checks.word("2+"));
        two.letters(Checks.word("3!"));
        c.due("behind the page, the lowest byte first", two.judge(), 0);
        c.due("the first letter", two.told(0, 0), 1);
        c.due("the second letter", two.told(0, 1), 2);
        c.due("the fourth letter", two.told(0, 4), 3);
        c.due("the last letter", two.told(0, 5), 1);
    }

    // Promise 9: the least and the greatest code, and those beyond, in each of the eight bytes.
    // "OUTSIDE: a byte above 126,"
    static void lettersAbove126() {
        for (int place = 0; place < 8; place++) {
            long below = place == 0 ? 0L : 0x2121212121212121L >>> (64 - 8 * place);
            for (long code : new long[] {1, 126}) {
                c.due(code + " in byte " + place, new LikeLastYears().letters(below | code << 8 * place), place + 1);
            }
            LikeLastYears x = new LikeLastYears();
            for (long code : new long[] {127, 128, 129, 254, 255}) {
                long w = below | code << 8 * place;
                c.refused(x, code + " in byte " + place, OUTSIDE, () -> x.letters(w));
            }
            c.due("count(5)", x.count(5), 0);
        }
    }

    // Promise 9: a 0 in each byte, and another byte in each one behind it.
    // "or one behind a 0 that is not 0;"
    static void lettersBehindZero() {
        LikeLastYears x = new LikeLastYears();
        for (int zero = 0; zero < 7; zero++) {
            long below = zero == 0 ? 0L : 0x2121212121212121L >>> (64 - 8 * zero);
            for (int place = zero + 1; place < 8; place++) {
                long w = below | 1L << 8 * place;
                c.refused(x, "byte " + place + " behind a 0 in byte " + zero, OUTSIDE, () -> x.letters(w));
            }
            long both = below | 127L << 56;
            c.refused(x, "above 126 behind a 0 in byte " + zero, OUTSIDE, () -> x.letters(both));
        }
        c.due("count(5)", x.count(5), 0);
    }

    // Promise 9: ten, and eleven by one and by eight.
    // "FULL: above 10."
    static void lettersFull() {
        LikeLastYears x = written(new LikeLastYears(), "12");
        c.due("ten", x.letters(Checks.word("34567890")), 10);
        c.refused(x, "one more", FULL, () -> x.letters(Checks.word("1")));
        c.due("none more", x.letters(0L), 10);
        c.due("count(5)", x.count(5), 10);
        LikeLastYears y = written(new LikeLastYears(), "123");
        c.refused(y, "eight more", FULL, () -> y.letters(Checks.word("45678901")));
        c.due("none of the eight has come", y.count(5), 3);
        c.due("seven more", y.letters(Checks.word("4567890")), 10);
    }

    // Promise 9: both refusals at once.
    // "OUTSIDE: a byte above 126, or one behind a 0 that is not 0; FULL: above 10."
    static void lettersFirstRefusal() {
        LikeLastYears x = written(new LikeLastYears(), "1234567890");
        c.refused(x, "above 126, full", OUTSIDE, () -> x.letters(127L));
        c.refused(x, "behind a 0, full", OUTSIDE, () -> x.letters(0x3100L));
        c.refused(x, "full", FULL, () -> x.letters(126L));
    }

    // Promise 9, by the terms: no LINE is refused by those calls that name STATE, and by no others.
    // "judges (STATE: no LINE)"
    static void noLineAtThePage() {
        for (LikeLastYears x : new LikeLastYears[] {new LikeLastYears(), plain(2)}) {
            c.due("letters()", x.letters(Checks.word("11")), 2);
            c.due("fault()", x.fault(), x.count(0));
            c.refused(x, "judge()", STATE, () -> x.judge());
            c.refused(x, "lets()", STATE, () -> x.lets(0, 0));
            c.refused(x, "strict()", STATE, () -> x.strict());
            c.refused(x, "told()", UNKNOWN, () -> x.told(0, 0));
            c.due("blank()", x.blank(), 2);
        }
    }

    // ---- promise 10: blank

    // Promise 10: of nothing, of one letter, of ten.
    // "THE PAGE is empty: how many letters it had."
    static void blankNoneOneTen() {
        LikeLastYears x = new LikeLastYears();
        c.due("of nothing", x.blank(), 0);
        for (String text : new String[] {"1", "1234567890"}) {
            written(x, text);
            c.due("of '" + text + "'", x.blank(), text.length());
            c.due("count(5)", x.count(5), 0);
            c.due("digest()", x.digest(), new LikeLastYears().digest());
            c.due("once more", x.blank(), 0);
        }
        c.due("there is room for ten again", written(x, "1234567890").count(5), 10);
    }

    // ---- promise 11: fault

    private static void faultBehind(int features, String ahead, String allowed) {
        for (char letter = 1; letter <= 126; letter++) {
            String text = ahead + letter;
            int due = allowed.indexOf(letter) < 0 ? ahead.length() : text.length();
            c.due("'" + ahead + "' and code " + (int) letter, written(plain(features), text).fault(), due);
        }
    }

    // Promise 11: every letter behind every kind of beginning, with two to four FEATURES.
    // "The place (from 0) of the first letter of THE PAGE that no JUDGE has there, behind those ahead of it (by how many FEATURES there are);"
    static void faultAtEachPlace() {
        for (int features = 2; features <= 4; features++) {
            String digits = "0990".substring(0, features);
            for (int place = 0; place < features; place++) {
                faultBehind(features, digits.substring(0, place), "0123456789");
            }
            faultBehind(features, digits, "+!");
            faultBehind(features, digits + "+", "123456789");
            faultBehind(features, digits + "+1", "!");
            faultBehind(features, digits + "+9", "!");
            faultBehind(features, digits + "!", "");
            faultBehind(features, digits + "+1!", "");
        }
    }

    // Promise 11: an empty PAGE, beginnings of a JUDGE, a whole one.
    // "how many letters it has, if there is none."
    static void faultNone() {
        for (int features = 2; features <= 4; features++) {
            String judge = "0990".substring(0, features) + "+9!";
            for (int letters = 0; letters <= judge.length(); letters++) {
                LikeLastYears x = written(plain(features), judge.substring(0, letters));
                c.refused(x, letters + " letters of " + judge, letters, () -> x.fault());
            }
        }
    }

    // Promise 11: the first of several, on a full PAGE too.
    // "The place (from 0) of the first letter"
    static void faultFirstOfSeveral() {
        c.due("at the beginning of ten", written(plain(2), "xxxxxxxxxx").fault(), 0);
        c.due("behind the longest judge", written(plain(4), "1234+5!!!!").fault(), 7);
        c.due("ten digits, two features", written(plain(2), "1234567890").fault(), 2);
        c.due("ten digits, four features", written(plain(4), "1234567890").fault(), 4);
    }

    // ---- promise 12: judge

    // Promise 12: the shortest and the longest text; the first number and the last.
    // "THE PAGE is read as a JUDGE: its number; THE PAGE is empty then."
    static void judgeIsRead() {
        for (int features = 2; features <= 4; features++) {
            LikeLastYears x = plainBegun(features);
            String digits = "0990".substring(0, features);
            String[] texts = {digits, digits + "+1", digits + "!", digits + "+9!", "9999".substring(0, features)};
            for (int number = 0; number < 5; number++) {
                c.due(texts[number], written(x, texts[number]).judge(), number);
                c.due("count(5)", x.count(5), 0);
                c.due("count(2)", x.count(2), number + 1);
            }
        }
    }

    // Promise 12: a text that would be a JUDGE.
    // "STATE: no LINE,"
    static void judgeWithoutLine() {
        LikeLastYears x = written(plain(2), "11");
        c.refused(x, "without a line", STATE, () -> x.judge());
        c.due("the page stays", x.count(5), 2);
        x.begin();
        c.due("with a line", x.judge(), 0);
    }

    // Promise 12: nothing, too short, too long, without an end, with a fault.
    // "or it is none;"
    static void judgeOfNoJudge() {
        String[] none = {"", "1", "1+1", "1!", "111", "11+", "11+0", "11+!", "11+11", "11!!", "11!1", "11!+1", "11+1!!",
            "+1!", "!", "/1", ":1", "1/", "1:", "11+:", "11\"", " 11", "11 ", "1234567890"};
        for (String text : none) {
            LikeLastYears x = written(plainBegun(2), text);
            c.refused(x, "'" + text + "'", STATE, () -> x.judge());
            c.due("the page stays", x.count(5), text.length());
            c.due("count(2)", x.count(2), 0);
        }
        c.due("of three, for four", written(plainBegun(4), "111").judge(), STATE);
        c.due("of three and tens, for four", written(plainBegun(4), "111+1").judge(), STATE);
        c.due("of four, for three", written(plainBegun(3), "1111").judge(), STATE);
    }

    // Promise 12: the fifth, and one more.
    // "FULL."
    static void judgeFull() {
        LikeLastYears x = Checks.judged(plainBegun(2), "11", "22", "33", "44");
        c.due("a fifth", written(x, "55").judge(), 4);
        written(x, "66+6!");
        c.refused(x, "a sixth", FULL, () -> x.judge());
        c.due("the page stays", x.count(5), 5);
        c.due("told(5, 0)", x.told(5, 0), UNKNOWN);
        c.due("told(4, 0)", x.told(4, 0), 5);
    }

    // Promise 12, by the terms: as many as there may be, by their numbers.
    // "JUDGES (5 at most, numbered) are texts:"
    static void fiveJudges() {
        LikeLastYears x = Checks.judged(plainBegun(2), "10", "21", "32", "43", "54", "65");
        c.due("count(2)", x.count(2), 5);
        for (int number = 0; number < 5; number++) {
            c.due("judge " + number, x.told(number, 0) * 10 + x.told(number, 1), 11 * number + 10);
        }
    }

    // Promise 12: each two of its refusals at once.
    // "STATE: no LINE, or it is none; FULL."
    static void judgeFirstRefusal() {
        LikeLastYears early = written(plain(2), "1");
        c.refused(early, "no line, none", STATE, () -> early.judge());
        LikeLastYears x = Checks.judged(plainBegun(2), "11", "22", "33", "44", "55");
        c.refused(x, "an empty page, full", STATE, () -> x.judge());
        written(x, "11+");
        c.refused(x, "none, full", STATE, () -> x.judge());
    }

    // ---- promise 13: told

    // Promise 13: a FEATURE that is not there, TENS least and greatest and none, "!" and none.
    // "Of a JUDGE: what = 0 to 3 the digit of that FEATURE (NONE), 4 the digit of TENS (NONE: there is none), 5 "!" (1, 0)."
    static void toldEach() {
        String[] endings = {"", "+1", "+9", "!", "+9!"};
        int[] tens = {NONE, 1, 9, NONE, 9};
        int[] bound = {0, 0, 0, 1, 1};
        int[] digits = {0, 9, 9, 0};
        for (int features = 2; features <= 4; features++) {
            LikeLastYears x = plainBegun(features);
            for (int j = 0; j < 5; j++) {
                Checks.judge(x, "0990".substring(0, features) + endings[j]);
                for (int f = 0; f < 4; f++) {
                    c.due("told(" + j + ", " + f + ") of " + features, x.told(j, f), f < features ? digits[f] : NONE);
                }
                c.due("tens of '" + endings[j] + "'", x.told(j, 4), tens[j]);
                c.due("! of '" + endings[j] + "'", x.told(j, 5), bound[j]);
            }
        }
    }

    // Promise 13: no JUDGE, one, five.
    // "UNKNOWN; OUTSIDE."
    static void toldUnknown() {
        LikeLastYears x = plainBegun(2);
        for (int many = 0; many <= 5; many++) {
            for (int j : Checks.beyond(0, many - 1)) {
                c.refused(x, "told(" + j + ", 0) of " + many, UNKNOWN, () -> x.told(j, 0));
            }
            Checks.judge(x, "11");
        }
    }

    // Promise 13: a what below the least, above the greatest.
    // "UNKNOWN; OUTSIDE."
    static void toldOutside() {
        LikeLastYears x = Checks.judged(plainBegun(2), "11+1!", "22");
        for (int what : Checks.beyond(0, 5)) {
            c.refused(x, "told(0, " + what + ")", OUTSIDE, () -> x.told(0, what));
            c.refused(x, "told(1, " + what + ")", OUTSIDE, () -> x.told(1, what));
        }
    }

    // Promise 13: both at once.
    // "UNKNOWN; OUTSIDE."
    static void toldFirstRefusal() {
        LikeLastYears x = Checks.judged(plainBegun(2), "11");
        c.refused(x, "told(1, 6)", UNKNOWN, () -> x.told(1, 6));
        c.refused(x, "told(-1, -1)", UNKNOWN, () -> x.told(-1, -1));
    }

    // ---- promise 14: lets

    // Promise 14: none, one, all five, by the KING of now and not of next YEAR.
    // "How many JUDGES let a new PORTRAIT pass behind an old one, by the KING as he is."
    static void letsNoneToFive() {
        LikeLastYears x = Checks.begun(HAIR, 5, FEATURE, 5);
        c.due("without judges", x.lets(55, 55), 0);
        for (int many = 1; many <= 5; many++) {
            Checks.judge(x, "09!");
            c.due(many + " let it", x.lets(15, 95), many);
            c.due("none of " + many, x.lets(55, 54), 0);
        }
        LikeLastYears older = Checks.judged(Checks.painted(Checks.begun(HAIR, 5, FEATURE, 5), 50), "09!");
        c.due("as he is", older.lets(14, 94), 1);
        c.due("as he was", older.lets(15, 95), 0);
        c.due("as he will be", older.lets(13, 93), 0);
    }

    // Promise 14, by the terms: every digit, just so far and one farther.
    // "for each FEATURE a digit (so far APART it may be),"
    static void letsByDigit() {
        for (int digit = 0; digit <= 9; digit++) {
            LikeLastYears x = Checks.judged(plainBegun(2), digit + "9", "9" + digit);
            for (int gap = 0; gap <= 9; gap++) {
                int due = gap <= digit ? 2 : 1;
                c.due("more by " + gap + " of " + digit, x.lets(0, gap), due);
                c.due("less by " + gap + " of " + digit, x.lets(gap, 0), due);
                c.due("the second by " + gap + " of " + digit, x.lets(0, 10 * gap), due);
            }
        }
    }

    // Promise 14, by the terms: a SCAR's and a BEARD's digit, just so far and one farther.
    // "for each FEATURE a digit (so far APART it may be),"
    static void letsByDigitOfKinds() {
        LikeLastYears x = Checks.judged(Checks.begun(SCAR, 5, CROWN, 5, BEARD, 5), "889", "999", "991", "995", "994");
        c.due("all the same", x.lets(555, 555), 5);
        c.due("a scar", x.lets(555, 556), 4);
        c.due("a crown", x.lets(555, 565), 4);
        c.due("a beard round by 1", x.lets(955, 55), 5);
        c.due("a beard round by 2", x.lets(955, 155), 4);
        c.due("a beard by 4", x.lets(955, 355), 4);
        c.due("a beard by 5", x.lets(955, 455), 3);
    }

    // Promise 14, by the terms: each digit of TENS, three times that and one more.
    // "then perhaps "+" and a digit, TENS (1 to 9: PORTRAITS may be no more than three times that APART),"
    static void letsByTens() {
        for (int tens = 1; tens <= 9; tens++) {
            LikeLastYears x = Checks.judged(plainBegun(4), "9999+" + tens);
            for (int far = 3 * tens - 1; far <= 3 * tens + 1; far++) {
                int portrait = apartFromNone(far);
                c.due("so far is it", x.apart(0, portrait), far);
                c.due(far + " by +" + tens, x.lets(0, portrait), far <= 3 * tens ? 1 : 0);
            }
        }
        LikeLastYears x = plainBegun(4);
        c.due("+0 is no judge", Checks.judge(x, "9999+0"), STATE);
        c.due("without tens as far as may be", Checks.judged(plainBegun(4), "9999").lets(0, 9999), 1);
    }

    private static int apartFromNone(int far) {
        int portrait = 0;
        int left = far;
        for (int unit = 1; unit <= 1000; unit *= 10) {
            portrait += Math.min(9, left) * unit;
            left -= Math.min(9, left);
        }
        return portrait;
    }

    // Promise 14, by the terms: the new one has the KING's SIZE, has it not; the digit is 0, is 1.
    // "then perhaps "!" (in each FEATURE with the digit 0 the new PORTRAIT must have the SIZE of the KING)."
    static void letsBound() {
        LikeLastYears x = Checks.judged(Checks.begun(FEATURE, 5, SCAR, 0, CROWN, 9), "000!", "100!", "010!", "001!", "000");
        c.due("like him", x.lets(905, 905), 5);
        c.due("the first unlike", x.lets(904, 904), 2);
        c.due("the second unlike", x.lets(915, 915), 2);
        c.due("the third unlike", x.lets(805, 805), 2);
        c.due("two unlike", x.lets(814, 814), 1);
        LikeLastYears old = Checks.judged(plainBegun(2), "09!");
        c.due("the second is free", old.lets(5, 95), 1);
        c.due("like him, but the old one is not", old.lets(4, 5), 0);
    }

    // Promise 14, by the terms: each of the three alone is not so.
    // "A JUDGE LETS a new PORTRAIT pass behind an old one, if all that is so."
    static void letsIfAllIsSo() {
        LikeLastYears x = Checks.judged(plainBegun(3), "044+2!");
        c.due("all is so, to the edge", x.lets(555, 975), 1);
        c.due("a digit is not: five, of five in all", x.lets(595, 545), 0);
        c.due("tens are not: three and four", x.lets(555, 985), 0);
        c.due("the king's size is not", x.lets(554, 554), 0);
    }

    // Promise 14, by the terms: just half of them, and one more, of one to five.
    // "It is LET, if more than half of the JUDGES let it (without JUDGES it is)."
    static void letByMoreThanHalf() {
        c.due("without judges", plainBegun(2).paint(99), 8);
        for (int judges = 1; judges <= 5; judges++) {
            for (int willing = 0; willing <= judges; willing++) {
                LikeLastYears x = plainBegun(2);
                for (int j = 0; j < judges; j++) {
                    Checks.judge(x, j < willing ? "99" : "00");
                }
                c.due("how many", x.lets(55, 99), willing);
                c.due(willing + " of " + judges, x.paint(99), 2 * willing > judges ? 8 : STATE);
            }
        }
    }

    // Promise 14: no LINE, with an empty bench as with nothing at all.
    // "STATE; OUTSIDE: old, portrait."
    static void letsWithoutLine() {
        for (LikeLastYears x : new LikeLastYears[] {new LikeLastYears(), plain(2)}) {
            c.refused(x, "lets(0, 0)", STATE, () -> x.lets(0, 0));
        }
    }

    // Promise 14: the old one alone, the new one alone, both.
    // "STATE; OUTSIDE: old, portrait."
    static void letsOutside() {
        LikeLastYears x = Checks.judged(plainBegun(2), "99");
        c.due("the least and the greatest", x.lets(0, 99), 1);
        c.due("the greatest and the least", x.lets(99, 0), 1);
        for (int bad : Checks.noPortraits(2)) {
            c.refused(x, "lets(" + bad + ", 99)", OUTSIDE, () -> x.lets(bad, 99));
            c.refused(x, "lets(0, " + bad + ")", OUTSIDE, () -> x.lets(0, bad));
            c.refused(x, "lets of that twice", OUTSIDE, () -> x.lets(bad, bad));
        }
    }

    // Promise 14: both refusals at once.
    // "STATE; OUTSIDE: old, portrait."
    static void letsFirstRefusal() {
        LikeLastYears x = plain(2);
        c.refused(x, "lets(-1, 0)", STATE, () -> x.lets(-1, 0));
        c.refused(x, "lets(0, 100)", STATE, () -> x.lets(0, 100));
    }

    // ---- promise 15: strict

    // Promise 15: no JUDGES, then one.
    // "STRICT; NONE: there are no JUDGES."
    static void strictWithoutJudges() {
        LikeLastYears x = plainBegun(2);
        c.due("none", x.strict(), NONE);
        Checks.judge(x, "99");
        c.due("one, who lets all pass", x.strict(), 0);
        LikeLastYears nobody = Checks.judged(Checks.painted(Checks.begun(HAIR, 5, FEATURE, 5), 55), "09!");
        c.due("one, who lets none pass", nobody.strict(), 0);
    }

    // Promise 15: no LINE.
    // "STATE."
    static void strictWithoutLine() {
        for (LikeLastYears x : new LikeLastYears[] {new LikeLastYears(), plain(2)}) {
            c.refused(x, "strict()", STATE, () -> x.strict());
        }
    }

    // Promise 15, by the terms: one PORTRAIT fewer, none at all, at the edge of SIZES.
    // "STRICT: the JUDGE who alone (without the others) would let the fewest PORTRAITS pass behind the last one;"
    static void strictFewest() {
        // Behind 55 "99+1" lets 25 pass, "24" 45, "14" 27, "32" 35.
        c.due("25 and 27", Checks.judged(plainBegun(2), "14", "99+1").strict(), 1);
        c.due("25 and 35", Checks.judged(plainBegun(2), "32", "24", "99+1").strict(), 2);
        // Behind 0 "31" lets 4 * 2 pass, "21" 3 * 2, "60" 7.
        c.due("6, 7 and 8", Checks.judged(Checks.begun(FEATURE, 0, FEATURE, 0), "31", "60", "21").strict(), 2);
        // Behind 99 "31" lets 4 * 2 pass, "90" 10.
        c.due("8 and 10", Checks.judged(Checks.begun(FEATURE, 9, FEATURE, 9), "31", "90").strict(), 0);
        // Of four SCARS "9999" lets all pass, "9999+9" all but those that are unlike in each.
        int[] scars = {SCAR, 5, SCAR, 5, CROWN, 5, CROWN, 5};
        c.due("10000 and 3439", Checks.judged(Checks.begun(scars), "9999", "9999+9").strict(), 1);
        c.due("10000, 1000 and 3439", Checks.judged(Checks.begun(scars), "9999", "9990", "9999+9").strict(), 1);
        // The last of five is found, too; it alone lets one PORTRAIT pass.
        c.due("the last", Checks.judged(plainBegun(2), "99", "98", "89", "88", "00").strict(), 4);
        LikeLastYears x = Checks.painted(Checks.begun(HAIR, 5, FEATURE, 5), 55);
        c.due("one and none", Checks.judged(x, "00", "09!").strict(), 1);
    }

    // Promise 15, by the terms: as few by other texts, and by the same.
    // "of like ones the least."
    static void strictOfLikeOnes() {
        c.due("the same", Checks.judged(plainBegun(2), "11", "11", "11", "11", "11").strict(), 0);
        c.due("behind a milder one", Checks.judged(plainBegun(2), "22", "11", "11").strict(), 1);
        c.due("25 by digits, 25 by tens", Checks.judged(plainBegun(2), "22", "99+1").strict(), 0);
        c.due("25 by tens, 25 by digits", Checks.judged(plainBegun(2), "99+1", "22").strict(), 0);
        LikeLastYears x = Checks.painted(Checks.begun(HAIR, 5, FEATURE, 5), 55);
        c.due("none and none", Checks.judged(x, "99", "09!", "00!").strict(), 1);
    }
}
