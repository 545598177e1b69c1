import java.nio.charset.StandardCharsets;
import java.util.Random;

/** Runs of calls on new objects, by fixed seeds, each answer against that of the plain program. */
public final class OracleTest {
    private static final int RUNS = 1500;
    private static final int[] EDGES = {Integer.MIN_VALUE, -4, -3, -2, -1, 0, 1, 2, 3, 5, 6, 7, 9, 10, 11, 15, 16, 17,
        97, 98, 99, 100, Integer.MAX_VALUE};

    private final Random lots;
    private final MasonMarks x = new MasonMarks();
    private final Plain y = new Plain();
    private final String run;

    private OracleTest(int seed) {
        lots = new Random(seed);
        run = "seed " + seed + ": ";
    }

    private int upTo(int most) {
        return lots.nextInt(most + 1);
    }

    private int from(int least, int most) {
        return least + lots.nextInt(most - least + 1);
    }

    /** A number that is told, most times; else one from the edges. */
    private int some(int howMany) {
        return howMany > 0 && upTo(19) > 0 ? lots.nextInt(howMany) : EDGES[lots.nextInt(EDGES.length)];
    }

    private int someSign() {
        int kind = upTo(11);
        return kind == 0 ? 98 : kind == 1 ? 99 : some(x.count(0));
    }

    // ---- texts

    private String weeks() {
        int a = upTo(3) == 0 ? upTo(23) : upTo(8);
        int b = Math.min(23, a + (upTo(2) == 0 ? upTo(23) : upTo(6)));
        return a + "," + b;
    }

    /** A text of its own kind: how many parts, signs, names and stones it has is by lot. */
    private String text() {
        StringBuilder text = new StringBuilder();
        int signs = upTo(5) == 0 ? upTo(16) : from(1, 6);
        int courses = upTo(5) == 0 ? upTo(16) : from(2, 8);
        int parts = from(1, 6);
        for (int k = 0; k < signs; k++) {
            text.append('g').append(from(1, upTo(1) * 8 + 1)).append(',');
            text.append(k > 0 && upTo(1) == 0 ? lots.nextInt(k) : 99).append(';');
        }
        for (int c = 0; c < courses; c++) {
            text.append('c').append(upTo(parts - 1)).append(',').append(weeks()).append(';');
        }
        int most = upTo(1) == 0 ? 99 : 12;
        StringBuilder rest = new StringBuilder();
        for (int m = upTo(9) == 0 ? 10 : upTo(6); m > 0; m--) {
            rest.append('n').append(upTo(2) == 0 ? weeks() : "0,23").append(';');
        }
        if (rest.length() > 0 && upTo(1) == 0) {
            rest.append("a0,").append(weeks()).append(';');
        }
        for (int b = upTo(2) == 0 ? upTo(5) : upTo(1); b > 0; b--) {
            int p = upTo(5);
            rest.append('b').append(p).append(',').append((p + from(1, 5)) % 6).append(';');
        }
        if (upTo(1) == 0) {
            rest.append('w').append(from(1, 99)).append(';');
        }
        for (int t = upTo(30); t > 0 && courses > 0 && text.length() + rest.length() < 490; t--) {
            int kind = upTo(5);
            int k = kind == 0 ? 98 : kind == 1 || signs == 0 ? 99 : lots.nextInt(signs);
            text.append('t').append(lots.nextInt(courses)).append(',').append(k);
            text.append(',').append(from(1, most)).append(';');
        }
        text.append(rest);
        return upTo(5) == 0 ? spoilt(text) : text.toString();
    }

    private String spoilt(StringBuilder text) {
        String signs = "0123456789,;gctbnawx \u00e9";
        for (int i = from(1, 2); i > 0 && text.length() > 0; i--) {
            int at = lots.nextInt(text.length());
            char sign = signs.charAt(lots.nextInt(signs.length()));
            int kind = upTo(2);
            if (kind == 0) {
                text.deleteCharAt(at);
            } else if (kind == 1) {
                text.insert(at, sign);
            } else {
                text.setCharAt(at, sign);
            }
        }
        return text.toString();
    }

    private void write(String text) {
        byte[] bytes = text.getBytes(StandardCharsets.ISO_8859_1);
        int at = 0;
        while (at < bytes.length) {
            int n = Math.min(bytes.length - at, upTo(3) == 0 ? from(1, 8) : 8);
            // What lies above the n bytes must not matter.
            long v = lots.nextLong();
            for (int i = 0; i < n; i++) {
                v = v << 8 | bytes[at + i] & 255;
            }
            Due.is(run + "write(" + n + ", " + v + ")", x.write(n, v), y.write(n, v));
            at += n;
        }
    }

    private void layOne() {
        Due.is(run + "wipe()", x.wipe(), y.wipe());
        write(text());
        Due.is(run + "fault()", x.fault(), y.fault());
        Due.is(run + "lay()", x.lay(), y.lay());
    }

    // ---- calls

    private void askWall() {
        int c = some(x.count(1));
        int k = someSign();
        int p = some(6);
        int what = some(4);
        Due.is(run + "sign(" + k + ", " + what + ")", x.sign(k, what), y.sign(k, what));
        Due.is(run + "stones(" + c + ", " + k + ")", x.stones(c, k), y.stones(c, k));
        Due.is(run + "in(" + p + ", " + k + ")", x.in(p, k), y.in(p, k));
        if (upTo(1) == 0) {
            Due.is(run + "read(" + c + ", " + k + ")", x.read(c, k), y.read(c, k));
        }
        int of = some(7);
        Due.is(run + "count(" + of + ")", x.count(of), y.count(of));
    }

    private void askParts() {
        int p = some(6);
        int q = some(6);
        int part = some(3);
        int i = upTo(3) == 0 ? -from(1, 3) : some(7);
        Due.is(run + "alike(" + p + ", " + q + ")", x.alike(p, q), y.alike(p, q));
        Due.is(run + "chance(" + p + ", " + q + ", " + part + ")", x.chance(p, q, part), y.chance(p, q, part));
        Due.is(run + "best(" + i + ")", x.best(i), y.best(i));
        Due.is(run + "sure(" + p + ", " + q + ")", x.sure(p, q), y.sure(p, q));
        Due.is(run + "seam(" + q + ", " + part + ")", x.seam(q, part), y.seam(q, part));
        Due.is(run + "pause()", x.pause(), y.pause());
        Due.is(run + "again()", x.again(), y.again());
        if (upTo(3) == 0) {
            Due.is(run + "next()", x.next(), y.next());
        }
    }

    private void askMen() {
        int c = some(x.count(1));
        int k = some(x.count(0));
        int m = some(x.count(3));
        int what = some(3);
        int part = some(2);
        int of = upTo(3) == 0 ? -1 : k;
        Due.is(run + "men(" + c + ", " + what + ")", x.men(c, what), y.men(c, what));
        Due.is(run + "asks(" + k + ", " + c + ")", x.asks(k, c), y.asks(k, c));
        Due.is(run + "may(" + m + ", " + k + ")", x.may(m, k), y.may(m, k));
        Due.is(run + "grown(" + k + ")", x.grown(k), y.grown(k));
        // Beyond some ways the plain program, which tries all, would take too long.
        if (x.partings() < 3000) {
            Due.is(run + "partings()", x.partings(), y.partings());
            Due.is(run + "odds(" + m + ", " + k + ", " + part + ")", x.odds(m, k, part), y.odds(m, k, part));
            Due.is(run + "named(" + of + ")", x.named(of), y.named(of));
        }
    }

    private void askBuildings() {
        int z = upTo(9) == 0 ? some(10000) : upTo(9999);
        int n = upTo(9) == 0 ? some(7) : from(2, 5);
        int o = some(n == 2 ? 2 : n == 3 ? 6 : n == 4 ? 24 : 120);
        int m = upTo(9) == 0 ? some(14) : from(1, 12);
        int h = upTo(9) == 0 ? some(101) : upTo(100);
        for (int what = -1; what < 4; what++) {
            String call = run + "found(" + z + ", " + n + ", " + o + ", " + m + ", " + h + ", " + what + ")";
            Due.is(call, x.found(z, n, o, m, h, what), y.found(z, n, o, m, h, what));
        }
    }

    private void askKept() {
        if (upTo(1) == 0) {
            Due.is(run + "keep()", x.keep(), y.keep());
        } else {
            Due.is(run + "back()", x.back(), y.back());
        }
    }

    private void ask() {
        layOne();
        for (int i = 0; i < 12; i++) {
            askWall();
            askWall();
            askParts();
            askMen();
            askKept();
            if (upTo(15) == 0) {
                askBuildings();
            }
            if (upTo(20) == 0) {
                layOne();
            }
        }
    }

    public static void main(String[] args) {
        for (int seed = 0; seed < RUNS; seed++) {
            new OracleTest(seed).ask();
        }
        Due.end();
    }
}
