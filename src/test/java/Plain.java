import java.util.ArrayList;
import java.util.Arrays;
import java.util.HashMap;
import java.util.HashSet;
import java.util.List;
import java.util.Map;
import java.util.Set;
import java.util.regex.Matcher;
import java.util.regex.Pattern;

/**
 * The document once more, written to be read and not to be quick: all rows of parts and all ways to part
 * the names are tried one by one. It shares no thought with the class beyond the document's words.
 */
final class Plain {
    static final int BAD = -1, NO = -2, FULL = -3, NONE = -4;
    private static final Pattern ITEM = Pattern.compile("([a-z])([0-9]{1,3}(?:,[0-9]{1,3})*);");

    /** What a text tells. */
    static final class Told {
        final List<int[]> signs = new ArrayList<>();
        final List<int[]> courses = new ArrayList<>();
        final List<Map<Integer, Integer>> stones = new ArrayList<>();
        final List<int[]> begun = new ArrayList<>();
        final List<Set<Integer>> names = new ArrayList<>();
        int w = 12;
    }

    private String text = "";
    private Told told = new Told();
    private final List<List<Map<Integer, Integer>>> kept = new ArrayList<>();

    // ---- texts

    private static boolean weeks(int a, int b) {
        return a <= 23 && b <= 23 && b >= a;
    }

    private static boolean fits(Told t, String letter, int[] n) {
        switch (letter + n.length) {
            case "g2":
                if (t.signs.size() == 16 || n[0] < 1 || n[0] > 9 || n[1] != 99 && n[1] >= t.signs.size()) {
                    return false;
                }
                return t.signs.add(n);
            case "c3":
                if (t.courses.size() == 16 || n[0] > 5 || !weeks(n[1], n[2])) {
                    return false;
                }
                t.stones.add(new HashMap<>());
                return t.courses.add(n);
            case "t3":
                if (n[0] >= t.courses.size() || n[2] < 1 || n[2] > 99) {
                    return false;
                }
                if (n[1] >= t.signs.size() && n[1] != 98 && n[1] != 99) {
                    return false;
                }
                t.stones.get(n[0]).merge(n[1], n[2], Integer::sum);
                return true;
            case "b2":
                return n[0] <= 5 && n[1] <= 5 && n[0] != n[1] && t.begun.add(n);
            case "n2":
                if (t.names.size() == 10 || !weeks(n[0], n[1])) {
                    return false;
                }
                t.names.add(new HashSet<>());
                return stay(t, t.names.size() - 1, n[0], n[1]);
            case "a3":
                return n[0] < t.names.size() && weeks(n[1], n[2]) && stay(t, n[0], n[1], n[2]);
            case "w1":
                if (n[0] < 1 || n[0] > 99) {
                    return false;
                }
                t.w = n[0];
                return true;
            default:
                return false;
        }
    }

    private static boolean stay(Told t, int m, int a, int b) {
        for (int week = a; week <= b; week++) {
            t.names.get(m).add(week);
        }
        return true;
    }

    private static int tell(String text, Told t) {
        Matcher items = ITEM.matcher(text);
        int at = 0;
        while (at < text.length()) {
            items.region(at, text.length());
            if (!items.lookingAt()) {
                return at;
            }
            int[] numbers = Arrays.stream(items.group(2).split(",")).mapToInt(Integer::parseInt).toArray();
            if (!fits(t, items.group(1), numbers)) {
                return at;
            }
            at = items.end();
        }
        return NONE;
    }

    int write(int n, long v) {
        if (n < 1 || n > 8) {
            return BAD;
        }
        if (text.length() + n > 500) {
            return FULL;
        }
        for (int i = n - 1; i >= 0; i--) {
            text += (char) (v >>> 8 * i & 255);
        }
        return text.length();
    }

    int wipe() {
        int was = text.length();
        text = "";
        return was;
    }

    int fault() {
        return tell(text, new Told());
    }

    int lay() {
        Told t = new Told();
        if (tell(text, t) != NONE) {
            return NO;
        }
        told = t;
        kept.clear();
        return t.courses.size();
    }

    // ---- stones

    private boolean sign0(int k) {
        return k >= 0 && k < told.signs.size();
    }

    private boolean course0(int c) {
        return c >= 0 && c < told.courses.size();
    }

    private boolean name0(int m) {
        return m >= 0 && m < told.names.size();
    }

    private List<Integer> parts0() {
        List<Integer> parts = new ArrayList<>();
        for (int p = 0; p < 6; p++) {
            for (int[] c : told.courses) {
                if (c[0] == p && !parts.contains(p)) {
                    parts.add(p);
                }
            }
        }
        return parts;
    }

    private int at(int c, int k) {
        return told.stones.get(c).getOrDefault(k, 0);
    }

    private int inPart(int p, int k) {
        int sum = 0;
        for (int c = 0; c < told.courses.size(); c++) {
            sum += told.courses.get(c)[0] == p ? at(c, k) : 0;
        }
        return sum;
    }

    int sign(int k, int what) {
        if (!sign0(k) || what < 0 || what > 3) {
            return BAD;
        }
        if (what == 0) {
            return told.signs.get(k)[0];
        }
        if (what == 1) {
            return told.signs.get(k)[1] == 99 ? NONE : told.signs.get(k)[1];
        }
        int sum = 0;
        int bits = 0;
        for (int p : parts0()) {
            sum += inPart(p, k);
            bits += inPart(p, k) > 0 ? 1 << p : 0;
        }
        return what == 2 ? sum : bits;
    }

    int stones(int c, int k) {
        return course0(c) && (sign0(k) || k == 98 || k == 99) ? at(c, k) : BAD;
    }

    int in(int p, int k) {
        return parts0().contains(p) && (sign0(k) || k == 98 || k == 99) ? inPart(p, k) : BAD;
    }

    int read(int c, int k) {
        if (!course0(c) || !sign0(k) && k != 98) {
            return BAD;
        }
        if (at(c, 99) == 0) {
            return NO;
        }
        told.stones.get(c).merge(k, 1, Integer::sum);
        told.stones.get(c).merge(99, -1, Integer::sum);
        return at(c, 99);
    }

    // ---- parts

    int alike(int p, int q) {
        if (!parts0().contains(p) || !parts0().contains(q) || p == q) {
            return BAD;
        }
        int both = 0;
        int any = 0;
        for (int k = 0; k < told.signs.size(); k++) {
            boolean one = inPart(p, k) > 0;
            boolean other = inPart(q, k) > 0;
            both += one && other ? told.signs.get(k)[0] : 0;
            any += one || other ? told.signs.get(k)[0] : 0;
        }
        return any == 0 ? 0 : 1000 * both / any;
    }

    long chance(int p, int q, int part) {
        if (!parts0().contains(p) || !parts0().contains(q) || p == q || part < 0 || part > 2) {
            return BAD;
        }
        int t = told.signs.size();
        int one = 0;
        int other = 0;
        for (int k = 0; k < t; k++) {
            one |= inPart(p, k) > 0 ? 1 << k : 0;
            other |= inPart(q, k) > 0 ? 1 << k : 0;
        }
        int c = Integer.bitCount(one & other);
        long all = 0;
        long some = 0;
        // Every lot of as many signs as the other part has, one by one.
        for (int lot = 0; lot < 1 << t; lot++) {
            if (Integer.bitCount(lot) == Integer.bitCount(other)) {
                all++;
                some += Integer.bitCount(lot & one) >= c ? 1 : 0;
            }
        }
        return part == 2 ? c : lowest(some, all)[part];
    }

    private static long[] lowest(long a, long b) {
        for (long d = Math.max(a, 1); d > 1; d--) {
            if (a % d == 0 && b % d == 0) {
                return new long[] {a / d, b / d};
            }
        }
        return a == 0 ? new long[] {0, 1} : new long[] {a, b};
    }

    private static void rows(List<Integer> left, List<Integer> row, List<List<Integer>> all) {
        if (left.isEmpty()) {
            all.add(new ArrayList<>(row));
        }
        for (Integer p : left) {
            List<Integer> less = new ArrayList<>(left);
            less.remove(p);
            row.add(p);
            rows(less, row, all);
            row.remove(row.size() - 1);
        }
    }

    private static int gaps(List<Integer> row, int[] where, int[] strokes) {
        int sum = 0;
        for (int k = 0; k < where.length; k++) {
            int first = -1;
            int last = -1;
            int has = 0;
            for (int i = 0; i < row.size(); i++) {
                if ((where[k] >> row.get(i) & 1) == 1) {
                    first = first < 0 ? i : first;
                    last = i;
                    has++;
                }
            }
            sum += has == 0 ? 0 : strokes[k] * (last - first + 1 - has);
        }
        return sum;
    }

    private static List<List<Integer>> fewest(List<List<Integer>> rows, int[] where, int[] strokes) {
        List<List<Integer>> best = new ArrayList<>();
        int least = Integer.MAX_VALUE;
        for (List<Integer> row : rows) {
            int g = gaps(row, where, strokes);
            if (g < least) {
                least = g;
                best.clear();
            }
            if (g == least) {
                best.add(row);
            }
        }
        return best;
    }

    private List<List<Integer>> orders() {
        List<List<Integer>> all = new ArrayList<>();
        rows(parts0(), new ArrayList<>(), all);
        for (int[] b : told.begun) {
            if (parts0().contains(b[0]) && parts0().contains(b[1])) {
                all.removeIf(row -> row.indexOf(b[0]) < row.indexOf(b[1]));
            }
        }
        return all;
    }

    private int[] where() {
        int[] where = new int[told.signs.size()];
        for (int k = 0; k < where.length; k++) {
            where[k] = sign(k, 3);
        }
        return where;
    }

    private int[] strokes() {
        return told.signs.stream().mapToInt(s -> s[0]).toArray();
    }

    private List<List<Integer>> bests() {
        return fewest(orders(), where(), strokes());
    }

    int best(int i) {
        if (i < -2) {
            return BAD;
        }
        List<List<Integer>> best = bests();
        if (best.isEmpty()) {
            return NONE;
        }
        if (i == -2) {
            return best.size();
        }
        if (i == -1) {
            return gaps(best.get(0), where(), strokes());
        }
        return i < best.get(0).size() ? best.get(0).get(i) : NONE;
    }

    int sure(int p, int q) {
        if (!parts0().contains(p) || !parts0().contains(q) || p == q) {
            return BAD;
        }
        List<List<Integer>> best = bests();
        if (best.isEmpty()) {
            return NONE;
        }
        boolean ahead = best.stream().allMatch(row -> row.indexOf(p) < row.indexOf(q));
        boolean behind = best.stream().allMatch(row -> row.indexOf(p) > row.indexOf(q));
        return ahead ? 1 : behind ? 2 : 0;
    }

    int seam(int i, int what) {
        if (i < 0 || i > parts0().size() - 2 || what < 0 || what > 2) {
            return BAD;
        }
        List<List<Integer>> best = bests();
        if (best.isEmpty()) {
            return NONE;
        }
        List<Integer> row = best.get(0);
        int sum = 0;
        for (int k = 0; k < told.signs.size(); k++) {
            int sign = k;
            boolean up = row.subList(0, i + 1).stream().anyMatch(p -> inPart(p, sign) > 0);
            boolean on = row.subList(i + 1, row.size()).stream().anyMatch(p -> inPart(p, sign) > 0);
            boolean here = inPart(row.get(i), k) > 0;
            boolean there = inPart(row.get(i + 1), k) > 0;
            sum += (what == 0 ? up && on : what == 1 ? here && !on : there && !up) ? 1 : 0;
        }
        return sum;
    }

    int pause() {
        List<List<Integer>> best = bests();
        if (best.isEmpty() || best.get(0).size() < 2) {
            return NONE;
        }
        List<Integer> row = best.get(0);
        int place = NONE;
        int least = Integer.MAX_VALUE;
        for (int i = 0; i + 1 < row.size(); i++) {
            int sum = 0;
            for (int k = 0; k < told.signs.size(); k++) {
                int sign = k;
                boolean up = row.subList(0, i + 1).stream().anyMatch(p -> inPart(p, sign) > 0);
                boolean on = row.subList(i + 1, row.size()).stream().anyMatch(p -> inPart(p, sign) > 0);
                sum += up && on ? told.signs.get(k)[0] : 0;
            }
            if (sum < least) {
                least = sum;
                place = i;
            }
        }
        return place;
    }

    int next() {
        List<List<Integer>> orders = orders();
        int now = bests().size();
        int part = NONE;
        int least = Integer.MAX_VALUE;
        for (int p : parts0()) {
            if (now > 0 && inPart(p, 99) > 0) {
                int worst = -1;
                for (int k = 0; k < told.signs.size(); k++) {
                    int[] where = where();
                    if ((where[k] >> p & 1) == 0) {
                        where[k] |= 1 << p;
                        worst = Math.max(worst, fewest(orders, where, strokes()).size());
                    }
                }
                worst = worst < 0 ? now : worst;
                if (worst < least) {
                    least = worst;
                    part = p;
                }
            }
        }
        return part;
    }

    // ---- men, names

    private static int up(int a, int b) {
        return a / b + (a % b == 0 ? 0 : 1);
    }

    int men(int c, int what) {
        if (!course0(c) || what < 0 || what > 2) {
            return BAD;
        }
        int signs = 0;
        for (int k = 0; k < told.signs.size(); k++) {
            signs += at(c, k) > 0 ? 1 : 0;
        }
        int stones = told.stones.get(c).values().stream().mapToInt(n -> n).sum();
        int weeks = told.courses.get(c)[2] - told.courses.get(c)[1] + 1;
        int least = Math.max(signs, up(stones, told.w * weeks));
        int most = Math.max(least, signs + at(c, 98) + at(c, 99));
        return what == 0 ? least : what == 1 ? most : up(stones, weeks);
    }

    int asks(int k, int c) {
        return sign0(k) && course0(c) ? up(at(c, k), told.w) : BAD;
    }

    int may(int m, int k) {
        if (!name0(m) || !sign0(k)) {
            return BAD;
        }
        for (int c = 0; c < told.courses.size(); c++) {
            if (at(c, k) > 0) {
                int weeks = 0;
                for (int week = told.courses.get(c)[1]; week <= told.courses.get(c)[2]; week++) {
                    weeks += told.names.get(m).contains(week) ? 1 : 0;
                }
                if (weeks < asks(k, c)) {
                    return 0;
                }
            }
        }
        return 1;
    }

    private List<Integer> showing() {
        List<Integer> signs = new ArrayList<>();
        for (int k = 0; k < told.signs.size(); k++) {
            if (sign(k, 2) > 0) {
                signs.add(k);
            }
        }
        return signs;
    }

    /** All ways, each counted in [sign][name]; answers how many. */
    private long ways(List<Integer> signs, int from, int[] owner, long[][] together) {
        if (from == signs.size()) {
            for (int i = 0; i < from; i++) {
                together[signs.get(i)][owner[i]]++;
            }
            return 1;
        }
        long sum = 0;
        for (int m = 0; m < told.names.size(); m++) {
            boolean free = may(m, signs.get(from)) == 1;
            for (int i = 0; i < from; i++) {
                free &= owner[i] != m;
            }
            if (free) {
                owner[from] = m;
                sum += ways(signs, from + 1, owner, together);
            }
        }
        return sum;
    }

    long partings() {
        return ways(showing(), 0, new int[16], new long[16][10]);
    }

    long odds(int m, int k, int part) {
        if (!name0(m) || !sign0(k) || part < 0 || part > 1) {
            return BAD;
        }
        long[][] together = new long[16][10];
        long all = ways(showing(), 0, new int[16], together);
        if (all == 0 || !showing().contains(k)) {
            return NO;
        }
        return lowest(together[k][m], all)[part];
    }

    int named(int k) {
        if (k != -1 && !sign0(k)) {
            return BAD;
        }
        long[][] together = new long[16][10];
        long all = ways(showing(), 0, new int[16], together);
        if (all == 0) {
            return NO;
        }
        int sum = 0;
        int name = NONE;
        for (int sign = 0; sign < 16; sign++) {
            for (int m = 0; m < 10; m++) {
                sum += together[sign][m] == all ? 1 : 0;
                name = sign == k && together[sign][m] == all ? m : name;
            }
        }
        return k == -1 ? sum : name;
    }

    int grown(int k) {
        if (!sign0(k)) {
            return BAD;
        }
        int from = told.signs.get(k)[1];
        if (from == 99 || !showing().contains(k) || !showing().contains(from)) {
            return NO;
        }
        int first = 99;
        int fromFirst = 99;
        for (int c = 0; c < told.courses.size(); c++) {
            if (at(c, k) > 0 && at(c, from) > 0) {
                return 1;
            }
            first = at(c, k) > 0 ? Math.min(first, told.courses.get(c)[1]) : first;
            fromFirst = at(c, from) > 0 ? Math.min(fromFirst, told.courses.get(c)[1]) : fromFirst;
        }
        return first >= fromFirst ? 2 : 3;
    }

    int again() {
        List<List<Integer>> best = bests();
        if (best.isEmpty()) {
            return NONE;
        }
        List<Integer> row = best.get(0);
        int sum = 0;
        for (int k = 0; k < told.signs.size(); k++) {
            for (int i = 0; i < row.size(); i++) {
                boolean left = i > 0 && inPart(row.get(i - 1), k) > 0;
                boolean right = i + 1 < row.size() && inPart(row.get(i + 1), k) > 0;
                boolean pair = false;
                for (int j = 0; j + 1 < row.size(); j++) {
                    boolean others = j != i && j + 1 != i;
                    pair |= others && inPart(row.get(j), k) > 0 && inPart(row.get(j + 1), k) > 0;
                }
                sum += !left && !right && pair ? inPart(row.get(i), k) : 0;
            }
        }
        return sum;
    }

    // ---- buildings

    private static int draw(long z, long i, long k) {
        long x = 7919 * z + 6151 * i + 3571 * k + 1;
        return (int) (x * x % 65521 % 10000);
    }

    int found(int z, int n, int o, int m, int h, int what) {
        boolean bad = z < 0 || z > 9999 || n < 2 || n > 6 || m < 1 || m > 12 || h < 0 || h > 100;
        if (bad || what < 0 || what > 2) {
            return BAD;
        }
        List<List<Integer>> all = new ArrayList<>();
        List<Integer> parts = new ArrayList<>();
        for (int p = 0; p < n; p++) {
            parts.add(p);
        }
        rows(parts, new ArrayList<>(), all);
        if (o < 0 || o >= all.size()) {
            return BAD;
        }
        List<Integer> order = all.get(o);
        int[] where = new int[m];
        int[] strokes = new int[m];
        for (int i = 0; i < m; i++) {
            int comes = draw(z, i, 0) % n;
            int leaves = Math.min(n, comes + 1 + draw(z, i, 1) % 3);
            strokes[i] = 1 + draw(z, i, 2) % 5;
            for (int place = comes; place < leaves; place++) {
                where[i] |= draw(z, i, 10 + place) % 100 < h ? 1 << order.get(place) : 0;
            }
        }
        List<List<Integer>> best = fewest(all, where, strokes);
        List<Integer> about = new ArrayList<>(order);
        java.util.Collections.reverse(about);
        if (what == 2) {
            return best.contains(order) || best.contains(about) ? 1 : 0;
        }
        return what == 1 ? best.size() : gaps(best.get(0), where, strokes);
    }

    private static List<Map<Integer, Integer>> copy(List<Map<Integer, Integer>> stones) {
        List<Map<Integer, Integer>> copy = new ArrayList<>();
        for (Map<Integer, Integer> course : stones) {
            copy.add(new HashMap<>(course));
        }
        return copy;
    }

    int keep() {
        if (kept.size() == 2) {
            return FULL;
        }
        kept.add(copy(told.stones));
        return kept.size();
    }

    int back() {
        if (kept.isEmpty()) {
            return NO;
        }
        told.stones.clear();
        told.stones.addAll(kept.remove(kept.size() - 1));
        return kept.size();
    }

    int count(int what) {
        switch (what) {
            case 0:
                return told.signs.size();
            case 1:
                return told.courses.size();
            case 2:
                return parts0().size();
            case 3:
                return told.names.size();
            case 4:
                return text.length();
            case 5:
                return kept.size();
            case 6:
                return told.stones.stream().mapToInt(c -> c.values().stream().mapToInt(n -> n).sum()).sum();
            default:
                return BAD;
        }
    }
}
