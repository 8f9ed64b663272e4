import java.util.ArrayList;
import java.util.HashSet;
import java.util.List;
import java.util.Set;
import java.util.TreeMap;

/**
 * The document once more, as slowly and plainly as it is said: PORTRAITS as rows of SIZES, JUDGES
 * as their texts, everything found by going through all there is. Answers are compared with it.
 */
final class PlainModel {
    private static final int NONE = -1, UNKNOWN = -101, OUTSIDE = -102, STATE = -103, FULL = -104;

    private final List<Integer> kinds = new ArrayList<>();
    private List<Integer> king = new ArrayList<>();
    private List<Integer> line = new ArrayList<>();
    private List<Integer> people = new ArrayList<>();
    private List<Integer> heap = new ArrayList<>();
    private final List<String> judges = new ArrayList<>();
    private String page = "";
    private int truths = 0;
    private List<List<Integer>> kept = null;

    // ---- the calls, by name

    long call(String name, int[] a, long w) {
        switch (name) {
            case "feature": return feature(a[0], a[1]);
            case "about": return about(a[0], a[1]);
            case "as": return as(a[0], a[1]);
            case "begin": return begin();
            case "apart": return !begun() ? STATE : outside(a[0]) || outside(a[1]) ? OUTSIDE : apart(a[0], a[1]);
            case "paint": return paint(a[0]);
            case "line": return a[0] < 0 || a[0] >= line.size() ? UNKNOWN : line.get(a[0]);
            case "letters": return letters(w);
            case "blank": return blank();
            case "fault": return fault();
            case "judge": return judge();
            case "told": return told(a[0], a[1]);
            case "lets": return !begun() ? STATE : outside(a[0]) || outside(a[1]) ? OUTSIDE : lets(a[0], a[1], king);
            case "strict": return begun() ? strict() : STATE;
            case "slips": return !begun() ? STATE : outside(a[0]) || outside(a[1]) ? OUTSIDE : slips(a[0], a[1]);
            case "truth": return truth(a[0]);
            case "copies": return copies(a[0], a[1], a[2]);
            case "back": return !begun() ? STATE : outside(a[0]) ? OUTSIDE : back(a[0]);
            case "span": return !begun() ? STATE : a[0] < 0 || a[0] > 3 ? OUTSIDE : span(a[0]);
            case "person": return add(people, a[0], 0);
            case "gate": return begun() ? gate() : STATE;
            case "heap": return add(heap, a[0], 1);
            case "order": return order(a[0]);
            case "image": return image();
            case "restore": return restore();
            case "count": return count(a[0]);
            default: return digest();
        }
    }

    // ---- words of the document

    private boolean begun() {
        return !line.isEmpty();
    }

    private int last() {
        return line.get(line.size() - 1);
    }

    private int all() {
        return (int) Math.round(Math.pow(10, kinds.size()));
    }

    private boolean outside(int portrait) {
        return portrait < 0 || portrait >= all();
    }

    private List<Integer> sizes(int portrait) {
        List<Integer> sizes = new ArrayList<>();
        for (int f = 0; f < kinds.size(); f++) {
            sizes.add(portrait % 10);
            portrait /= 10;
        }
        return sizes;
    }

    private int number(List<Integer> sizes) {
        int number = 0;
        for (int f = sizes.size() - 1; f >= 0; f--) {
            number = number * 10 + sizes.get(f);
        }
        return number;
    }

    private List<Integer> older(List<Integer> of) {
        List<Integer> older = new ArrayList<>(of);
        for (int f = 0; f < older.size(); f++) {
            int size = older.get(f);
            if (kinds.get(f) == 1 && size > 0) {
                older.set(f, size - 1);
            }
            if (kinds.get(f) == 3) {
                older.set(f, size == 9 ? 0 : size + 1);
            }
        }
        return older;
    }

    private int apart(int f, int a, int b) {
        int kind = kinds.get(f);
        if (kind == 2 || kind == 4) {
            return a == b ? 0 : 9;
        }
        int straight = Math.abs(a - b);
        return kind == 3 && straight > 5 ? 10 - straight : straight;
    }

    private int apart(int a, int b) {
        int sum = 0;
        for (int f = 0; f < kinds.size(); f++) {
            sum += apart(f, sizes(a).get(f), sizes(b).get(f));
        }
        return sum;
    }

    private boolean letsPass(String judge, int old, int portrait, List<Integer> king) {
        List<Integer> a = sizes(old);
        List<Integer> b = sizes(portrait);
        for (int f = 0; f < kinds.size(); f++) {
            int digit = judge.charAt(f) - '0';
            if (apart(f, a.get(f), b.get(f)) > digit) {
                return false;
            }
            if (judge.endsWith("!") && digit == 0 && !b.get(f).equals(king.get(f))) {
                return false;
            }
        }
        int plus = judge.indexOf('+');
        return plus < 0 || apart(old, portrait) <= 3 * (judge.charAt(plus + 1) - '0');
    }

    private int lets(int old, int portrait, List<Integer> king) {
        int many = 0;
        for (String judge : judges) {
            many += letsPass(judge, old, portrait, king) ? 1 : 0;
        }
        return many;
    }

    private boolean let(int old, int portrait, List<Integer> king) {
        return judges.isEmpty() || lets(old, portrait, king) > judges.size() / 2.0;
    }

    /** All that is a slip of a portrait. */
    private List<Integer> slipsOf(int portrait) {
        List<Integer> slips = new ArrayList<>();
        for (int f = 0; f < kinds.size(); f++) {
            for (int more = 0; more < 2; more++) {
                int slip = slip(portrait, f, more);
                if (slip != portrait) {
                    slips.add(slip);
                }
            }
        }
        return slips;
    }

    private int slip(int portrait, int f, int more) {
        List<Integer> sizes = sizes(portrait);
        int to = sizes.get(f) + (more == 1 ? 1 : -1);
        if (kinds.get(f) == 3) {
            to = (to + 10) % 10;
        }
        if (to < 0 || to > 9) {
            return portrait;
        }
        sizes.set(f, to);
        return number(sizes);
    }

    // ---- features, the line

    private int feature(int kind, int size) {
        if (kind < 0 || kind > 4 || size < 0 || size > 9) {
            return OUTSIDE;
        }
        if (begun()) {
            return STATE;
        }
        if (kinds.size() == 4) {
            return FULL;
        }
        kinds.add(kind);
        king.add(size);
        return kinds.size() - 1;
    }

    private int about(int f, int what) {
        if (f < 0 || f >= kinds.size()) {
            return UNKNOWN;
        }
        if (what < 0 || what > 2) {
            return OUTSIDE;
        }
        return what == 0 ? kinds.get(f) : what == 1 ? king.get(f) : begun() ? sizes(last()).get(f) : NONE;
    }

    private int as(int f, int kind) {
        if (f < 0 || f >= kinds.size()) {
            return UNKNOWN;
        }
        if (kind < 0 || kind > 4) {
            return OUTSIDE;
        }
        return kind == 0 || kind == kinds.get(f) || (kind == 2 && kinds.get(f) == 4) ? f : NONE;
    }

    private int begin() {
        if (begun() || kinds.size() < 2) {
            return STATE;
        }
        line.add(number(king));
        return number(king);
    }

    private int paint(int portrait) {
        if (!begun()) {
            return STATE;
        }
        if (outside(portrait)) {
            return OUTSIDE;
        }
        if (!let(last(), portrait, older(king))) {
            return STATE;
        }
        if (line.size() == 60) {
            return FULL;
        }
        king = older(king);
        line.add(portrait);
        return apart(number(king), portrait);
    }

    // ---- judges

    private int letters(long w) {
        String more = "";
        boolean ended = false;
        for (int i = 0; i < 8; i++) {
            int letter = (int) (w >>> 8 * i & 0xff);
            if (letter > 126 || (ended && letter != 0)) {
                return OUTSIDE;
            }
            ended = letter == 0;
            more += ended ? "" : String.valueOf((char) letter);
        }
        if (page.length() + more.length() > 10) {
            return FULL;
        }
        page += more;
        return page.length();
    }

    private int blank() {
        int had = page.length();
        page = "";
        return had;
    }

    /** All beginnings of texts of judges, told by their shape. */
    private boolean couldBegin(String text) {
        int n = kinds.size();
        return text.matches("[0-9]{0," + n + "}") || text.matches("[0-9]{" + n + "}(\\+|(\\+[1-9])?!?)");
    }

    private int fault() {
        for (int i = 0; i < page.length(); i++) {
            if (!couldBegin(page.substring(0, i + 1))) {
                return i;
            }
        }
        return page.length();
    }

    private int judge() {
        if (!begun() || !page.matches("[0-9]{" + kinds.size() + "}(\\+[1-9])?!?")) {
            return STATE;
        }
        if (judges.size() == 5) {
            return FULL;
        }
        judges.add(page);
        page = "";
        return judges.size() - 1;
    }

    private int told(int j, int what) {
        if (j < 0 || j >= judges.size()) {
            return UNKNOWN;
        }
        if (what < 0 || what > 5) {
            return OUTSIDE;
        }
        String text = judges.get(j);
        if (what < 4) {
            return what < kinds.size() ? text.charAt(what) - '0' : NONE;
        }
        int plus = text.indexOf('+');
        return what == 5 ? (text.endsWith("!") ? 1 : 0) : plus < 0 ? NONE : text.charAt(plus + 1) - '0';
    }

    private int strict() {
        int best = NONE;
        int fewest = Integer.MAX_VALUE;
        for (int j = 0; j < judges.size(); j++) {
            int many = 0;
            for (int p = 0; p < all(); p++) {
                many += letsPass(judges.get(j), last(), p, king) ? 1 : 0;
            }
            if (many < fewest) {
                best = j;
                fewest = many;
            }
        }
        return best;
    }

    // ---- what would be

    private int slips(int from, int to) {
        Set<Integer> reached = new HashSet<>(Set.of(from));
        for (int n = 0; n <= 20; n++) {
            if (reached.contains(to)) {
                return n;
            }
            Set<Integer> more = new HashSet<>(reached);
            for (int p : reached) {
                for (int q : slipsOf(p)) {
                    if (!more.contains(q) && let(p, q, king)) {
                        more.add(q);
                    }
                }
            }
            if (more.size() == reached.size()) {
                return NONE;
            }
            reached = more;
        }
        return NONE;
    }

    private int truth(int what) {
        if (!begun()) {
            return STATE;
        }
        if (what < 0 || what > 1) {
            return OUTSIDE;
        }
        if (truths == 30) {
            return STATE;
        }
        truths++;
        if (last() == number(king)) {
            return what == 0 ? 0 : NONE;
        }
        // to each portrait the least first feature, 9 for none
        TreeMap<Integer, Integer> now = new TreeMap<>();
        now.put(last(), 9);
        List<Integer> then = king;
        for (int year = 1; year <= 12; year++) {
            then = older(then);
            TreeMap<Integer, Integer> next = new TreeMap<>();
            for (int p : now.keySet()) {
                for (int f = 0; f < kinds.size(); f++) {
                    List<Integer> sizes = sizes(p);
                    sizes.set(f, then.get(f));
                    if (let(p, number(sizes), then)) {
                        next.merge(number(sizes), year == 1 ? f : now.get(p), Math::min);
                    }
                }
                next.merge(p, now.get(p), Math::min);
            }
            Integer first = next.get(number(then));
            if (first != null) {
                return what == 0 ? year : first == 9 ? NONE : first;
            }
            now = next;
        }
        return NONE;
    }

    private int copies(int years, int seed, int what) {
        if (!begun()) {
            return STATE;
        }
        if (years < 1 || years > 60 || seed < 0 || what < 0 || what > 3) {
            return OUTSIDE;
        }
        long s = seed;
        int portrait = last();
        List<Integer> then = king;
        int let = 0;
        for (int year = 0; year < years; year++) {
            then = older(then);
            s = (1103515245L * s + 12345L) % (1L << 31);
            int f = (int) (s / 65536 % kinds.size());
            s = (1103515245L * s + 12345L) % (1L << 31);
            int copy = slip(portrait, f, (int) (s / 65536 % 2));
            if (let(portrait, copy, then)) {
                if (copy != portrait) {
                    let++;
                }
                portrait = copy;
            }
        }
        return what == 0 ? portrait : what == 1 ? apart(portrait, number(then)) : what == 2 ? let : (int) s;
    }

    private int back(int portrait) {
        int sum = 0;
        for (int f = 0; f < kinds.size(); f++) {
            int straight = Math.abs(sizes(portrait).get(f) - sizes(last()).get(f));
            sum += kinds.get(f) == 3 ? Math.min(straight, 10 - straight) : straight;
        }
        return sum;
    }

    private int span(int years) {
        Set<Integer> could = new HashSet<>(Set.of(last()));
        for (int year = 0; year < years; year++) {
            for (int p : new ArrayList<>(could)) {
                could.addAll(slipsOf(p));
            }
        }
        return could.size();
    }

    // ---- people, a heap

    private int add(List<Integer> row, int portrait, int from) {
        if (!begun()) {
            return STATE;
        }
        if (outside(portrait)) {
            return OUTSIDE;
        }
        if (row.size() == 6) {
            return FULL;
        }
        row.add(portrait);
        return row.size() - 1 + from;
    }

    private int gate() {
        int taken = NONE;
        int best = -1;
        for (int i = 0; i < people.size(); i++) {
            int judged = lets(last(), people.get(i), king);
            int worth = judged * 1000 + 500 - apart(last(), people.get(i));
            if ((judged > 0 || judges.isEmpty()) && worth > best) {
                taken = i;
                best = worth;
            }
        }
        return taken;
    }

    private int order(int what) {
        if (!begun()) {
            return STATE;
        }
        if (what != 0 && (what < 10 || what > 15)) {
            return OUTSIDE;
        }
        List<Integer> best = new ArrayList<>();
        int cost = allRows(new ArrayList<>(), best, Integer.MAX_VALUE);
        return what == 0 ? cost : what - 10 < heap.size() ? best.get(what - 10) : NONE;
    }

    private int allRows(List<Integer> row, List<Integer> best, int least) {
        if (row.size() == heap.size()) {
            int cost = 0;
            for (int i = 1; i < row.size(); i++) {
                cost += apart(heap.get(row.get(i - 1)), heap.get(row.get(i)));
            }
            if (cost < least) {
                best.clear();
                best.addAll(row);
                least = cost;
            }
            return least;
        }
        for (int n = 0; n < heap.size(); n++) {
            if (!row.contains(n)) {
                row.add(n);
                least = allRows(row, best, least);
                row.remove(row.size() - 1);
            }
        }
        return least;
    }

    // ---- what is told of all

    private int image() {
        if (!begun()) {
            return STATE;
        }
        kept = List.of(List.copyOf(king), List.copyOf(line), List.copyOf(heap), List.copyOf(people));
        return line.size();
    }

    private int restore() {
        if (kept == null) {
            return STATE;
        }
        king = new ArrayList<>(kept.get(0));
        line = new ArrayList<>(kept.get(1));
        heap = new ArrayList<>(kept.get(2));
        people = new ArrayList<>(kept.get(3));
        return line.size();
    }

    private int count(int what) {
        int[] counts = {kinds.size(), line.size(), judges.size(), people.size(), heap.size(), page.length(), truths,
            begun() ? apart(number(king), last()) : 0};
        return what < 0 || what > 7 ? OUTSIDE : counts[what];
    }

    private long digest() {
        List<Integer> told = new ArrayList<>();
        for (int f = 0; f < kinds.size(); f++) {
            for (int what = 0; what < 3; what++) {
                told.add(about(f, what));
            }
        }
        told.addAll(line);
        for (int j = 0; j < judges.size(); j++) {
            for (int what = 0; what < 6; what++) {
                told.add(told(j, what));
            }
        }
        if (begun()) {
            told.add(strict());
            told.add(gate());
            told.add(order(0));
            for (int what = 10; what < 16; what++) {
                told.add(order(what));
            }
            told.add(span(2));
            told.add(slips(line.get(0), number(king)));
        }
        for (char letter : page.toCharArray()) {
            told.add((int) letter);
        }
        for (int what = 0; what < 8; what++) {
            told.add(count(what));
        }
        long h = 619;
        for (int n : told) {
            h = 31 * h + n;
        }
        return h;
    }
}
