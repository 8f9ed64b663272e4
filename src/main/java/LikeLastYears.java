/**
 * The king's portrait is painted anew each year and must be like the one before, by judges.
 *
 * A PORTRAIT is held as the number that the document tells it by, and so are the KING's SIZES:
 * what the KING would be in some YEAR is then one int, and nothing has to be put back.
 */
public final class LikeLastYears {
    public static final int NONE = -1, UNKNOWN = -101, OUTSIDE = -102, STATE = -103, FULL = -104;

    private static final int KIND_FEATURE = 0, KIND_HAIR = 1, KIND_SCAR = 2, KIND_BEARD = 3, KIND_CROWN = 4;
    private static final int SIZES = 10, GREATEST_SIZE = 9;
    private static final int LEAST_FEATURES = 2, MOST_FEATURES = 4, NO_FEATURE = MOST_FEATURES, MOST_PORTRAITS = 10000;
    private static final int FARTHEST = MOST_FEATURES * GREATEST_SIZE;
    private static final int MOST_LINE = 60, MOST_PEOPLE = 6, MOST_HEAP = 6;
    private static final int MOST_JUDGES = 5, MOST_LETTERS = 10, GREATEST_LETTER = 126, LETTERS_AT_ONCE = 8;
    private static final int MARKS = 6, MARK_TENS = 4, MARK_BOUND = 5, APART_BY_TENS = 3;
    private static final int MOST_SLIPS = 20, MOST_TRUE_YEARS = 12, MOST_TRUTHS = 30;
    private static final int MOST_COPIES = 60, MOST_SPAN = 3, DIGEST_SPAN = 2;
    private static final int ORDER_PLACES = 10, ABOUTS = 3, COUNTS = 8;
    private static final int[] POWER = {1, 10, 100, 1000, 10000};

    private final Looks looks = new Looks();
    private final Bench bench = new Bench(looks);
    private final Census census = new Census();
    private final Search search = new Search(looks, bench);
    private final Sorter sorter = new Sorter(looks);
    private final Row page = new Row(MOST_LETTERS);
    private final Row painted = new Row(MOST_LINE);
    private final Row people = new Row(MOST_PEOPLE);
    private final Row undated = new Row(MOST_HEAP);
    private int king = 0;
    private int truths = 0;
    private int keptKing = 0;
    private int keptPainted = 0;
    private int keptPeople = 0;
    private int keptUndated = 0;

    public LikeLastYears() {
    }

    // ---- features, the line

    public int feature(int kind, int size) {
        if (!isKind(kind) || size < 0 || size > GREATEST_SIZE) {
            return OUTSIDE;
        }
        if (hasLine()) {
            return STATE;
        }
        if (looks.isFull()) {
            return FULL;
        }
        int number = looks.add(ofKind(kind));
        king = looks.with(king, number, size);
        return number;
    }

    public int about(int feature, int what) {
        if (!looks.has(feature)) {
            return UNKNOWN;
        }
        if (what < 0 || what >= ABOUTS) {
            return OUTSIDE;
        }
        return tellAbout(feature, what);
    }

    public int as(int feature, int kind) {
        if (!looks.has(feature)) {
            return UNKNOWN;
        }
        if (!isKind(kind)) {
            return OUTSIDE;
        }
        return isSuch(looks.at(feature), kind) ? feature : NONE;
    }

    public int begin() {
        if (hasLine() || looks.size() < LEAST_FEATURES) {
            return STATE;
        }
        painted.add(king);
        return king;
    }

    public int apart(int a, int b) {
        if (!hasLine()) {
            return STATE;
        }
        if (!looks.isPortrait(a) || !looks.isPortrait(b)) {
            return OUTSIDE;
        }
        return looks.gap(a, b);
    }

    public int paint(int portrait) {
        if (!hasLine()) {
            return STATE;
        }
        if (!looks.isPortrait(portrait)) {
            return OUTSIDE;
        }
        int older = looks.aged(king);
        if (!bench.agrees(painted.last(), portrait, older)) {
            return STATE;
        }
        if (painted.isFull()) {
            return FULL;
        }
        king = older;
        painted.add(portrait);
        return looks.gap(king, portrait);
    }

    public int line(int k) {
        return painted.has(k) ? painted.get(k) : UNKNOWN;
    }

    // ---- judges

    public int letters(long w) {
        int many = lettersIn(w);
        if (many == NONE) {
            return OUTSIDE;
        }
        if (page.size() + many > MOST_LETTERS) {
            return FULL;
        }
        for (int i = 0; i < many; i++) {
            page.add(letterIn(w, i));
        }
        return page.size();
    }

    public int blank() {
        int had = page.size();
        page.cut(0);
        return had;
    }

    public int fault() {
        return firstFault(page, looks.size());
    }

    public int judge() {
        if (!hasLine() || !isJudge(page, looks.size())) {
            return STATE;
        }
        if (bench.isFull()) {
            return FULL;
        }
        int number = bench.add(page);
        page.cut(0);
        return number;
    }

    public int told(int judge, int what) {
        if (!bench.has(judge)) {
            return UNKNOWN;
        }
        if (what < 0 || what >= MARKS) {
            return OUTSIDE;
        }
        return bench.mark(judge, what);
    }

    public int lets(int old, int portrait) {
        if (!hasLine()) {
            return STATE;
        }
        if (!looks.isPortrait(old) || !looks.isPortrait(portrait)) {
            return OUTSIDE;
        }
        return Integer.bitCount(bench.willing(old, portrait, king));
    }

    public int strict() {
        return hasLine() ? strictest() : STATE;
    }

    // ---- what would be

    public int slips(int from, int to) {
        if (!hasLine()) {
            return STATE;
        }
        if (!looks.isPortrait(from) || !looks.isPortrait(to)) {
            return OUTSIDE;
        }
        return search.fewestSlips(from, to, king);
    }

    public int truth(int what) {
        if (!hasLine()) {
            return STATE;
        }
        if (what != 0 && what != 1) {
            return OUTSIDE;
        }
        if (truths >= MOST_TRUTHS) {
            return STATE;
        }
        truths++;
        search.seekTruth(painted.last(), king);
        return what == 0 ? search.trueYears() : search.firstTrue();
    }

    public int copies(int years, int seed, int what) {
        if (!hasLine()) {
            return STATE;
        }
        if (years < 1 || years > MOST_COPIES || seed < 0 || what < 0 || what > 3) {
            return OUTSIDE;
        }
        return copied(years, seed, what);
    }

    public int back(int portrait) {
        if (!hasLine()) {
            return STATE;
        }
        if (!looks.isPortrait(portrait)) {
            return OUTSIDE;
        }
        return looks.steps(portrait, painted.last());
    }

    public int span(int years) {
        if (!hasLine()) {
            return STATE;
        }
        if (years < 0 || years > MOST_SPAN) {
            return OUTSIDE;
        }
        return within(years);
    }

    // ---- people, a heap

    public int person(int portrait) {
        int refusal = refusalOf(portrait, people);
        if (refusal != 0) {
            return refusal;
        }
        people.add(portrait);
        return people.size() - 1;
    }

    public int gate() {
        return hasLine() ? takenForKing() : STATE;
    }

    public int heap(int portrait) {
        int refusal = refusalOf(portrait, undated);
        if (refusal != 0) {
            return refusal;
        }
        undated.add(portrait);
        return undated.size();
    }

    public int order(int what) {
        if (!hasLine()) {
            return STATE;
        }
        if (what != 0 && (what < ORDER_PLACES || what >= ORDER_PLACES + MOST_HEAP)) {
            return OUTSIDE;
        }
        sorter.sort(undated);
        return what == 0 ? sorter.cost() : sorter.place(what - ORDER_PLACES);
    }

    // ---- what is told of all

    /**
     * THE LINE, THE HEAP and PEOPLE only ever grow at their ends, and restore() alone cuts them,
     * to just these lengths: what stands below a kept length is what stood there when it was kept.
     */
    public int image() {
        if (!hasLine()) {
            return STATE;
        }
        keptKing = king;
        keptPainted = painted.size();
        keptPeople = people.size();
        keptUndated = undated.size();
        return keptPainted;
    }

    public int restore() {
        if (keptPainted == 0) {
            return STATE;
        }
        king = keptKing;
        painted.cut(keptPainted);
        people.cut(keptPeople);
        undated.cut(keptUndated);
        return keptPainted;
    }

    public int count(int what) {
        return what < 0 || what >= COUNTS ? OUTSIDE : howMany(what);
    }

    public long digest() {
        long h = 619L;
        for (int f = 0; f < looks.size(); f++) {
            for (int what = 0; what < ABOUTS; what++) {
                h = 31L * h + tellAbout(f, what);
            }
        }
        h = withRow(h, painted);
        for (int j = 0; j < bench.size(); j++) {
            for (int what = 0; what < MARKS; what++) {
                h = 31L * h + bench.mark(j, what);
            }
        }
        if (hasLine()) {
            h = withFindings(h);
        }
        h = withRow(h, page);
        for (int what = 0; what < COUNTS; what++) {
            h = 31L * h + howMany(what);
        }
        return h;
    }

    // ---- what the calls share

    private boolean hasLine() {
        return painted.size() > 0;
    }

    private static boolean isKind(int kind) {
        return kind >= KIND_FEATURE && kind <= KIND_CROWN;
    }

    private static Feature ofKind(int kind) {
        switch (kind) {
            case KIND_HAIR:
                return new Hair();
            case KIND_SCAR:
                return new Scar();
            case KIND_BEARD:
                return new Beard();
            case KIND_CROWN:
                return new Crown();
            default:
                return new Feature();
        }
    }

    private static boolean isSuch(Feature one, int kind) {
        switch (kind) {
            case KIND_HAIR:
                return one instanceof Hair;
            case KIND_SCAR:
                return one instanceof Scar;
            case KIND_BEARD:
                return one instanceof Beard;
            case KIND_CROWN:
                return one instanceof Crown;
            default:
                return true;
        }
    }

    private int tellAbout(int number, int what) {
        switch (what) {
            case 0:
                return looks.at(number).kind();
            case 1:
                return Looks.sizeIn(king, number);
            default:
                return hasLine() ? Looks.sizeIn(painted.last(), number) : NONE;
        }
    }

    /** What a PORTRAIT that would come into a row is refused with; 0: it is not. */
    private int refusalOf(int portrait, Row row) {
        if (!hasLine()) {
            return STATE;
        }
        if (!looks.isPortrait(portrait)) {
            return OUTSIDE;
        }
        return row.isFull() ? FULL : 0;
    }

    private int howMany(int what) {
        switch (what) {
            case 0:
                return looks.size();
            case 1:
                return painted.size();
            case 2:
                return bench.size();
            case 3:
                return people.size();
            case 4:
                return undated.size();
            case 5:
                return page.size();
            case 6:
                return truths;
            default:
                return hasLine() ? looks.gap(king, painted.last()) : 0;
        }
    }

    private static long withRow(long h, Row row) {
        for (int i = 0; i < row.size(); i++) {
            h = 31L * h + row.get(i);
        }
        return h;
    }

    private long withFindings(long h) {
        h = 31L * h + strictest();
        h = 31L * h + takenForKing();
        sorter.sort(undated);
        h = 31L * h + sorter.cost();
        for (int i = 0; i < MOST_HEAP; i++) {
            h = 31L * h + sorter.place(i);
        }
        h = 31L * h + within(DIGEST_SPAN);
        return 31L * h + search.fewestSlips(painted.get(0), king, king);
    }

    // ---- THE PAGE

    private static int letterIn(long w, int i) {
        return (int) (w >>> (8 * i)) & 255;
    }

    /** How many letters a word tells; NONE: it is not as told. */
    private static int lettersIn(long w) {
        int many = 0;
        for (int i = 0; i < LETTERS_AT_ONCE; i++) {
            int letter = letterIn(w, i);
            if (letter > GREATEST_LETTER || (letter != 0 && many < i)) {
                return NONE;
            }
            if (letter != 0) {
                many++;
            }
        }
        return many;
    }

    private static boolean isDigit(int letter, int least) {
        return letter >= '0' + least && letter <= '9';
    }

    /** Goes along THE PAGE as far as some JUDGE's text could. */
    private static int firstFault(Row page, int features) {
        int length = page.size();
        int i = 0;
        while (i < length && i < features && isDigit(page.get(i), 0)) {
            i++;
        }
        if (i < features) {
            return i;
        }
        if (i < length && page.get(i) == '+') {
            i++;
            if (i == length || !isDigit(page.get(i), 1)) {
                return i;
            }
            i++;
        }
        if (i < length && page.get(i) == '!') {
            i++;
        }
        return i;
    }

    /** A text without a fault may still want its end: a FEATURE's digit, or the one behind "+". */
    private static boolean isJudge(Row page, int features) {
        int length = page.size();
        return length >= features && firstFault(page, features) == length && page.last() != '+';
    }

    // ---- what is found out

    private int strictest() {
        int strict = NONE;
        int fewest = 0;
        for (int j = 0; j < bench.size(); j++) {
            int many = passing(j);
            if (strict == NONE || many < fewest) {
                strict = j;
                fewest = many;
            }
        }
        return strict;
    }

    /** How many PORTRAITS a JUDGE alone would let pass behind the last one. */
    private int passing(int judge) {
        int last = painted.last();
        census.open();
        for (int f = 0; f < looks.size(); f++) {
            int old = Looks.sizeIn(last, f);
            for (int size = 0; size < SIZES; size++) {
                int gap = looks.at(f).gap(old, size);
                if (bench.allows(judge, f, gap) && (size == Looks.sizeIn(king, f) || !bench.binds(judge, f))) {
                    census.meet(gap);
                }
            }
            census.close();
        }
        return census.upTo(bench.farthest(judge));
    }

    private int within(int years) {
        int last = painted.last();
        census.open();
        for (int f = 0; f < looks.size(); f++) {
            int now = Looks.sizeIn(last, f);
            for (int size = 0; size < SIZES; size++) {
                census.meet(looks.at(f).steps(size, now));
            }
            census.close();
        }
        return census.upTo(years);
    }

    private int takenForKing() {
        int last = painted.last();
        int taken = NONE;
        int most = 0;
        int least = 0;
        for (int i = 0; i < people.size(); i++) {
            int judges = Integer.bitCount(bench.willing(last, people.get(i), king));
            int gap = looks.gap(last, people.get(i));
            boolean mayPass = judges > 0 || bench.size() == 0;
            if (mayPass && (taken == NONE || judges > most || (judges == most && gap < least))) {
                taken = i;
                most = judges;
                least = gap;
            }
        }
        return taken;
    }

    /** Without such a SLIP the same PORTRAIT comes again, LET or not: the YEAR has no SLIP that was LET. */
    private int copied(int years, int seed, int what) {
        int last = painted.last();
        int then = king;
        int slipsLet = 0;
        int s = seed;
        for (int year = 0; year < years; year++) {
            then = looks.aged(then);
            s = nextSeed(s);
            int f = drawn(s, looks.size());
            s = nextSeed(s);
            int copy = looks.slip(last, f, drawn(s, 2) == 1 ? 1 : -1);
            if (copy != NONE && bench.agrees(last, copy, then)) {
                last = copy;
                slipsLet++;
            }
        }
        switch (what) {
            case 0:
                return last;
            case 1:
                return looks.gap(last, then);
            case 2:
                return slipsLet;
            default:
                return s;
        }
    }

    private static int nextSeed(int seed) {
        return (int) ((1103515245L * seed + 12345L) & 0x7fffffffL);
    }

    private static int drawn(int seed, int of) {
        return of > 0 ? seed / 65536 % of : 0;
    }

    // ---- KINDS of FEATURES

    private static class Feature {
        int kind() {
            return KIND_FEATURE;
        }

        int aged(int size) {
            return size;
        }

        /** How far APART two SIZES are. */
        int gap(int a, int b) {
            return Math.abs(a - b);
        }

        /** By how few SLIPS one SIZE comes from another, which for a SCAR is not how far APART they are. */
        int steps(int a, int b) {
            return Math.abs(a - b);
        }

        /** The SIZE with a SLIP by 1 or -1; NONE: there is none. */
        int slipped(int size, int by) {
            int to = size + by;
            return to < 0 || to > GREATEST_SIZE ? NONE : to;
        }
    }

    private static final class Hair extends Feature {
        int kind() {
            return KIND_HAIR;
        }

        int aged(int size) {
            return Math.max(0, size - 1);
        }
    }

    private static class Scar extends Feature {
        int kind() {
            return KIND_SCAR;
        }

        int gap(int a, int b) {
            return a == b ? 0 : GREATEST_SIZE;
        }
    }

    private static final class Beard extends Feature {
        int kind() {
            return KIND_BEARD;
        }

        int aged(int size) {
            return slipped(size, 1);
        }

        int gap(int a, int b) {
            int straight = Math.abs(a - b);
            return Math.min(straight, SIZES - straight);
        }

        int steps(int a, int b) {
            return gap(a, b);
        }

        int slipped(int size, int by) {
            return Math.floorMod(size + by, SIZES);
        }
    }

    private static final class Crown extends Scar {
        int kind() {
            return KIND_CROWN;
        }
    }

    /** The FEATURES, and what is reckoned of PORTRAITS by them. */
    private static final class Looks {
        private final Feature[] features = new Feature[MOST_FEATURES];
        private int size = 0;

        Looks() {
            Feature plain = new Feature();
            for (int f = 0; f < MOST_FEATURES; f++) {
                features[f] = plain; // so that no place is ever null
            }
        }

        int size() {
            return size;
        }

        boolean isFull() {
            return size >= MOST_FEATURES;
        }

        boolean has(int f) {
            return f >= 0 && f < size;
        }

        int add(Feature one) {
            if (!isFull()) {
                features[size] = one;
                size++;
            }
            return size - 1;
        }

        Feature at(int f) {
            return features[f >= 0 && f < MOST_FEATURES ? f : 0];
        }

        boolean isPortrait(int number) {
            return number >= 0 && size < POWER.length && number < POWER[size];
        }

        static int sizeIn(int portrait, int f) {
            return f >= 0 && f < MOST_FEATURES ? portrait / POWER[f] % SIZES : 0;
        }

        int with(int portrait, int f, int newSize) {
            if (f < 0 || f >= MOST_FEATURES) {
                return portrait;
            }
            int unit = POWER[f];
            return portrait + (newSize - portrait / unit % SIZES) * unit;
        }

        /** The PORTRAIT with a SLIP of a FEATURE by 1 or -1; NONE: there is none. */
        int slip(int portrait, int f, int by) {
            if (!has(f)) {
                return NONE;
            }
            int unit = POWER[f];
            int now = portrait / unit % SIZES;
            int to = features[f].slipped(now, by);
            return to == NONE ? NONE : portrait + (to - now) * unit;
        }

        int gap(int a, int b) {
            int all = 0;
            for (int f = 0; f < size; f++) {
                all += at(f).gap(sizeIn(a, f), sizeIn(b, f));
            }
            return all;
        }

        int steps(int a, int b) {
            int all = 0;
            for (int f = 0; f < size; f++) {
                all += at(f).steps(sizeIn(a, f), sizeIn(b, f));
            }
            return all;
        }

        /** What a KING who is like that PORTRAIT is like a YEAR later. */
        int aged(int portrait) {
            int older = portrait;
            for (int f = 0; f < size; f++) {
                older = with(older, f, at(f).aged(sizeIn(portrait, f)));
            }
            return older;
        }
    }

    /** Numbers in a row that grows at its end. */
    private static final class Row {
        private final int[] items;
        private int size = 0;

        Row(int most) {
            items = new int[Math.max(0, most)];
        }

        int size() {
            return size;
        }

        boolean isFull() {
            return size >= items.length;
        }

        boolean has(int i) {
            return i >= 0 && i < size;
        }

        int get(int i) {
            return has(i) ? items[i] : NONE;
        }

        int last() {
            return get(size - 1);
        }

        void add(int item) {
            if (!isFull()) {
                items[size] = item;
                size++;
            }
        }

        void cut(int length) {
            if (length >= 0 && length < size) {
                size = length;
            }
        }
    }

    /**
     * The JUDGES. Who of them allows what is kept as bits, one a JUDGE, for they are asked of very
     * many pairs of PORTRAITS.
     */
    private static final class Bench {
        private final Looks looks;
        private final int[] marks = new int[MOST_JUDGES * MARKS];
        private final int[] allowing = new int[MOST_FEATURES * SIZES];
        private final int[] allowingAll = new int[FARTHEST + 1];
        private final int[] binding = new int[MOST_FEATURES];
        private int size = 0;

        Bench(Looks looks) {
            this.looks = looks;
        }

        int size() {
            return size;
        }

        boolean isFull() {
            return size >= MOST_JUDGES;
        }

        boolean has(int judge) {
            return judge >= 0 && judge < size;
        }

        int mark(int judge, int what) {
            return has(judge) && what >= 0 && what < MARKS ? marks[judge * MARKS + what] : NONE;
        }

        boolean allows(int judge, int f, int gap) {
            return gap <= mark(judge, f);
        }

        /** Whether in that FEATURE a new PORTRAIT must have the SIZE of the KING. */
        boolean binds(int judge, int f) {
            return mark(judge, MARK_BOUND) == 1 && mark(judge, f) == 0;
        }

        int farthest(int judge) {
            int tens = mark(judge, MARK_TENS);
            return tens == NONE ? FARTHEST : APART_BY_TENS * tens;
        }

        /** Takes a JUDGE whose text THE PAGE is. */
        int add(Row page) {
            if (isFull()) {
                return NONE;
            }
            int features = looks.size();
            int at = size * MARKS;
            for (int f = 0; f < MOST_FEATURES; f++) {
                marks[at + f] = f < features ? page.get(f) - '0' : NONE;
            }
            marks[at + MARK_TENS] = page.get(features) == '+' ? page.get(features + 1) - '0' : NONE;
            marks[at + MARK_BOUND] = page.last() == '!' ? 1 : 0;
            size++;
            noteBits(size - 1);
            return size - 1;
        }

        private void noteBits(int judge) {
            int bit = 1 << judge;
            for (int f = 0; f < looks.size() && f < MOST_FEATURES; f++) {
                for (int gap = 0; gap < SIZES; gap++) {
                    if (allows(judge, f, gap)) {
                        allowing[f * SIZES + gap] |= bit;
                    }
                }
                if (binds(judge, f)) {
                    binding[f] |= bit;
                }
            }
            for (int gap = 0; gap <= farthest(judge) && gap <= FARTHEST; gap++) {
                allowingAll[gap] |= bit;
            }
        }

        /**
         * The JUDGES, as bits, who let a new PORTRAIT pass behind an old one. All searches wait for
         * this one, so it takes figure by figure off the numbers, and asks a KIND for unlike ones alone.
         */
        int willing(int old, int fresh, int king) {
            int who = (1 << size) - 1;
            int all = 0;
            int before = old;
            int after = fresh;
            int like = king;
            int many = looks.size();
            for (int f = 0; f < many && f < MOST_FEATURES; f++) {
                int newSize = after % SIZES;
                if (newSize != before % SIZES) {
                    int gap = looks.at(f).gap(before % SIZES, newSize);
                    all += gap;
                    who &= gap >= 0 && gap < SIZES ? allowing[f * SIZES + gap] : 0;
                }
                if (newSize != like % SIZES) {
                    who &= ~binding[f];
                }
                before /= SIZES;
                after /= SIZES;
                like /= SIZES;
            }
            return all >= 0 && all <= FARTHEST ? who & allowingAll[all] : 0;
        }

        /** Whether a new PORTRAIT is LET behind an old one. */
        boolean agrees(int old, int fresh, int king) {
            return size == 0 || 2 * Integer.bitCount(willing(old, fresh, king)) > size;
        }
    }

    /**
     * Counts PORTRAITS by how far they are from one, FEATURE behind FEATURE, so that not each of
     * them has to be looked at.
     */
    private static final class Census {
        private final int[] met = new int[SIZES];
        private int[] portraits = new int[FARTHEST + 1];
        private int[] spare = new int[FARTHEST + 1];

        void open() {
            for (int far = 0; far <= FARTHEST; far++) {
                portraits[far] = 0;
            }
            portraits[0] = 1;
        }

        /** One more SIZE of the FEATURE at hand is so far away. */
        void meet(int far) {
            if (far >= 0 && far < SIZES) {
                met[far]++;
            }
        }

        /** The FEATURE at hand has been met in all its SIZES. */
        void close() {
            for (int far = 0; far <= FARTHEST; far++) {
                spare[far] = 0;
                for (int part = 0; part < SIZES && part <= far; part++) {
                    spare[far] += met[part] * portraits[far - part];
                }
            }
            int[] counted = spare;
            spare = portraits;
            portraits = counted;
            for (int far = 0; far < SIZES; far++) {
                met[far] = 0;
            }
        }

        int upTo(int most) {
            int all = 0;
            for (int far = 0; far <= most && far <= FARTHEST; far++) {
                all += portraits[far];
            }
            return all;
        }
    }

    /** Goes from PORTRAIT to PORTRAIT, step by step, with all that can be come to so far. */
    private static final class Search {
        private final Looks looks;
        private final Bench bench;
        /** The round in which a PORTRAIT was come to last: a new round finds none of them come to. */
        private final int[] seen = new int[MOST_PORTRAITS];
        private int round = 0;
        private int[] row = new int[MOST_PORTRAITS];
        private int[] earlier = new int[MOST_PORTRAITS];
        private int size = 0;
        private int trueYears = NONE;
        private int firstTrue = NONE;

        Search(Looks looks, Bench bench) {
            this.looks = looks;
            this.bench = bench;
        }

        int trueYears() {
            return trueYears;
        }

        int firstTrue() {
            return firstTrue;
        }

        int fewestSlips(int from, int to, int king) {
            if (from == to) {
                return 0;
            }
            startRound();
            reach(from, 0);
            int done = 0;
            for (int slips = 1; slips <= MOST_SLIPS; slips++) {
                int end = size;
                for (; done < end; done++) {
                    slipFrom(row[done], king);
                }
                if (isReached(to)) {
                    return slips;
                }
            }
            return NONE;
        }

        /** Asked so often that it looks into the row itself, rather than by isReached(). */
        private void slipFrom(int portrait, int king) {
            for (int f = 0; f < looks.size(); f++) {
                for (int by = -1; by <= 1; by += 2) {
                    int to = looks.slip(portrait, f, by);
                    if (to >= 0 && to < MOST_PORTRAITS && seen[to] != round && bench.agrees(portrait, to, king)) {
                        reach(to, 0);
                    }
                }
            }
        }

        /** Finds trueYears and firstTrue. */
        void seekTruth(int last, int king) {
            trueYears = last == king ? 0 : NONE;
            firstTrue = NONE;
            startRound();
            reach(last, 0);
            int then = king;
            for (int year = 1; year <= MOST_TRUE_YEARS && trueYears == NONE; year++) {
                then = looks.aged(then);
                passYear(then, year == 1);
                if (isReached(then)) {
                    trueYears = year;
                    firstTrue = firstOf(then);
                }
            }
        }

        /**
         * Each PORTRAIT carries what was done in the first YEAR. Those of a lesser first FEATURE are
         * ahead in the row and stay so, therefore whichever comes to a PORTRAIT first has the least.
         */
        private void passYear(int king, boolean isFirst) {
            int[] before = row;
            int many = size;
            row = earlier;
            earlier = before;
            startRound();
            for (int i = 0; i < many; i++) {
                int portrait = before[i] % MOST_PORTRAITS;
                int first = before[i] / MOST_PORTRAITS;
                for (int f = 0; f < looks.size(); f++) {
                    int truer = looks.with(portrait, f, Looks.sizeIn(king, f));
                    if (!isReached(truer) && bench.agrees(portrait, truer, king)) {
                        reach(truer, isFirst ? f : first);
                    }
                }
                if (!isReached(portrait)) {
                    reach(portrait, isFirst ? NO_FEATURE : first);
                }
            }
        }

        private int firstOf(int portrait) {
            for (int i = 0; i < size; i++) {
                if (row[i] % MOST_PORTRAITS == portrait) {
                    int first = row[i] / MOST_PORTRAITS;
                    return first == NO_FEATURE ? NONE : first;
                }
            }
            return NONE;
        }

        private void startRound() {
            round++;
            size = 0;
        }

        private boolean isReached(int portrait) {
            return portrait >= 0 && portrait < MOST_PORTRAITS && seen[portrait] == round;
        }

        private void reach(int portrait, int first) {
            if (size < MOST_PORTRAITS && portrait >= 0 && portrait < MOST_PORTRAITS) {
                seen[portrait] = round;
                row[size] = first * MOST_PORTRAITS + portrait;
                size++;
            }
        }
    }

    /** Puts THE HEAP into its ORDER. */
    private static final class Sorter {
        private final Looks looks;
        private final int[] gaps = new int[MOST_HEAP * MOST_HEAP];
        private final int[] trial = new int[MOST_HEAP];
        private final int[] best = new int[MOST_HEAP];
        private int size = 0;
        private int cost = 0;

        Sorter(Looks looks) {
            this.looks = looks;
        }

        int cost() {
            return cost;
        }

        /** The number of the so-manieth. */
        int place(int i) {
            return i >= 0 && i < size ? best[i] : NONE;
        }

        void sort(Row portraits) {
            size = Math.min(portraits.size(), MOST_HEAP);
            for (int a = 0; a < size; a++) {
                for (int b = 0; b < size; b++) {
                    gaps[a * MOST_HEAP + b] = looks.gap(portraits.get(a), portraits.get(b));
                }
            }
            cost = FARTHEST * MOST_HEAP + 1;
            tryPlaces(0, 0, 0);
        }

        /** Rows are tried in their order, so that a later one has to cost less than the best. */
        private void tryPlaces(int depth, int taken, int soFar) {
            if (soFar >= cost) {
                return;
            }
            if (depth >= size) {
                cost = soFar;
                System.arraycopy(trial, 0, best, 0, size);
                return;
            }
            for (int n = 0; n < size; n++) {
                if ((taken >> n & 1) == 0) {
                    int more = depth == 0 ? 0 : gaps[trial[depth - 1] * MOST_HEAP + n];
                    trial[depth] = n;
                    tryPlaces(depth + 1, taken | 1 << n, soFar + more);
                }
            }
        }
    }
}
