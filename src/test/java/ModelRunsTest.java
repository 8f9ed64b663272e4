import java.util.Random;

/** Runs of calls drawn by fixed seeds, each answer compared with the plain model's. */
public final class ModelRunsTest {
    private static final String[] NAMES = {"feature", "about", "as", "begin", "apart", "paint", "line", "letters",
        "blank", "fault", "judge", "told", "lets", "strict", "slips", "truth", "copies", "back", "span", "person", "gate",
        "heap", "order", "image", "restore", "count", "digest"};
    private static final int[] ODD = {Integer.MIN_VALUE, -1, 5, 6, 10, 16, 60, 61, 100, 1000, 10000, Integer.MAX_VALUE};
    private static final Checks c = new Checks();

    public static void main(String[] args) {
        int more = args.length > 0 ? Integer.parseInt(args[0]) : 1;
        for (int seed = 0; seed < 240 * more; seed++) {
            run(seed, 2 + seed % 2, 200);
        }
        for (int seed = 0; seed < 16 * more; seed++) {
            run(100000 + seed, 4, 60);
        }
        for (int seed = 0; seed < 240 * more; seed++) {
            search(200000 + seed, 2 + seed % 2);
        }
        c.end();
    }

    /** Any calls, most of them such as are not refused. */
    private static void run(int seed, int features, int calls) {
        Random random = new Random(seed);
        Pair pair = new Pair(seed);
        begin(pair, random, features);
        for (int i = 0; i < calls; i++) {
            String name = NAMES[random.nextInt(NAMES.length)];
            if (name.equals("judge") && random.nextInt(3) > 0) {
                judge(pair, random, features);
            }
            if (name.equals("paint") && random.nextInt(3) > 0) {
                pair.call("paint", near(pair, random, features));
            }
            pair.call(name, arguments(name, random, features), word(random, features));
        }
        pair.call("digest");
    }

    /** A drifted line with judges, and then slips, truth and what else is searched for. */
    private static void search(int seed, int features) {
        Random random = new Random(seed);
        Pair pair = new Pair(seed);
        begin(pair, random, features);
        for (int i = random.nextInt(4); i >= 0; i--) {
            pair.call("paint", near(pair, random, features));
        }
        for (int i = random.nextInt(6); i > 0; i--) {
            judge(pair, random, features);
        }
        for (int i = 0; i < 8; i++) {
            pair.call("truth", 0);
            pair.call("truth", 1);
            pair.call("slips", portrait(random, features), portrait(random, features));
            pair.call("strict");
            pair.call("copies", 1 + random.nextInt(60), random.nextInt() & 0x7fffffff, i % 3);
            pair.call("paint", near(pair, random, features));
        }
        pair.call("digest");
    }

    private static void begin(Pair pair, Random random, int features) {
        for (int f = 0; f < features; f++) {
            pair.call("feature", random.nextInt(5), random.nextInt(10));
        }
        pair.call("digest");
        pair.call("begin");
    }

    private static void judge(Pair pair, Random random, int features) {
        pair.call("blank");
        pair.call("letters", new int[0], Checks.word(text(random, features)));
        pair.call("judge");
    }

    private static String text(Random random, int features) {
        String text = "";
        for (int f = 0; f < features; f++) {
            text += "0001123459999".charAt(random.nextInt(13));
        }
        if (random.nextInt(3) == 0) {
            text += "+" + (1 + random.nextInt(9));
        }
        return random.nextInt(3) == 0 ? text + "!" : text;
    }

    private static long word(Random random, int features) {
        switch (random.nextInt(8)) {
            case 0: return random.nextLong();
            case 1: return random.nextInt(128);
            case 2: return Checks.word(String.valueOf("0123456789+!".charAt(random.nextInt(12))));
            case 3: return 0;
            default: return Checks.word(text(random, features).substring(random.nextInt(2)));
        }
    }

    private static int portrait(Random random, int features) {
        return random.nextInt(features == 2 ? 100 : features == 3 ? 1000 : 10000);
    }

    /** The last portrait with a feature or two changed. */
    private static int near(Pair pair, Random random, int features) {
        int last = 0;
        int[] units = {1, 10, 100, 1000};
        for (int f = features - 1; f >= 0; f--) {
            last = last * 10 + Math.max(0, pair.own.about(f, 2));
        }
        for (int i = random.nextInt(3); i > 0; i--) {
            int unit = units[random.nextInt(features)];
            int size = last / unit % 10;
            last += (Math.floorMod(size + random.nextInt(3) - 1, 10) - size) * unit;
        }
        return last;
    }

    private static int[] arguments(String name, Random random, int features) {
        if (random.nextInt(12) == 0) {
            return new int[] {odd(random), odd(random), odd(random)};
        }
        int a = random.nextInt(8);
        int b = random.nextInt(7);
        switch (name) {
            case "apart": case "lets": case "slips": case "paint": case "back": case "person": case "heap":
                return new int[] {portrait(random, features), portrait(random, features)};
            case "copies":
                return new int[] {1 + random.nextInt(60), random.nextInt() & 0x7fffffff, random.nextInt(4)};
            case "truth":
                return new int[] {random.nextInt(2)};
            case "order":
                return new int[] {random.nextInt(4) == 0 ? 0 : 10 + random.nextInt(6)};
            case "as": case "about": case "told":
                return new int[] {random.nextInt(5), b};
            default:
                return new int[] {a, b};
        }
    }

    private static int odd(Random random) {
        return ODD[random.nextInt(ODD.length)];
    }

    /** The class and the model, called alike. */
    private static final class Pair {
        final LikeLastYears own = new LikeLastYears();
        private final PlainModel model = new PlainModel();
        private final int seed;

        Pair(int seed) {
            this.seed = seed;
        }

        void call(String name, int... arguments) {
            call(name, arguments, 0);
        }

        void call(String name, int[] arguments, long w) {
            int[] a = java.util.Arrays.copyOf(arguments, 3);
            String told = "run " + seed + ": " + name + java.util.Arrays.toString(a) + (name.equals("letters") ? w : "");
            c.due(told, ownAnswer(name, a, w), model.call(name, a, w));
        }

        private long ownAnswer(String name, int[] a, long w) {
            switch (name) {
                case "feature": return own.feature(a[0], a[1]);
                case "about": return own.about(a[0], a[1]);
                case "as": return own.as(a[0], a[1]);
                case "begin": return own.begin();
                case "apart": return own.apart(a[0], a[1]);
                case "paint": return own.paint(a[0]);
                case "line": return own.line(a[0]);
                case "letters": return own.letters(w);
                case "blank": return own.blank();
                case "fault": return own.fault();
                case "judge": return own.judge();
                case "told": return own.told(a[0], a[1]);
                case "lets": return own.lets(a[0], a[1]);
                case "strict": return own.strict();
                case "slips": return own.slips(a[0], a[1]);
                case "truth": return own.truth(a[0]);
                case "copies": return own.copies(a[0], a[1], a[2]);
                case "back": return own.back(a[0]);
                case "span": return own.span(a[0]);
                case "person": return own.person(a[0]);
                case "gate": return own.gate();
                case "heap": return own.heap(a[0]);
                case "order": return own.order(a[0]);
                case "image": return own.image();
                case "restore": return own.restore();
                case "count": return own.count(a[0]);
                default: return own.digest();
            }
        }
    }
}
