import java.util.ArrayList;
import java.util.List;
import java.util.function.ToLongFunction;

/** "Nothing changes then": a call that is refused, or that only asks, leaves every other answer as it was. */
public final class RefusalTest {
    private static final int BAD = MasonMarks.BAD, NO = MasonMarks.NO, FULL = MasonMarks.FULL, NONE = MasonMarks.NONE;
    private static final int LEAST = Integer.MIN_VALUE, MOST = Integer.MAX_VALUE;

    private static final String WALL =
        "g1,99;g2,0;c0,0,1;c3,2,2;t0,0,5;t0,99,2;t1,1,3;t1,98,1;n0,2;n1,2;w5;";
    private static final String ROUND = WALL + "b0,3;b3,0;";

    private RefusalTest() {
    }

    /** All that can be asked, in some 120 calls: an object may be asked three times so. */
    private static List<Long> view(MasonMarks x) {
        List<Long> all = new ArrayList<>();
        for (int what = 0; what <= 6; what++) {
            all.add((long) x.count(what));
        }
        all.add((long) x.fault());
        for (int i = 0; i < 2; i++) {
            viewOne(x, i, all);
        }
        int[] stones = {0, 1, 98, 99};
        for (int k : stones) {
            all.add((long) x.stones(0, k));
            all.add((long) x.stones(1, k));
            all.add((long) x.in(0, k));
            all.add((long) x.in(3, k));
        }
        for (int part = 0; part < 3; part++) {
            all.add(x.chance(0, 3, part));
            all.add((long) x.seam(0, part));
        }
        for (int i = -2; i <= 2; i++) {
            all.add((long) x.best(i));
        }
        long[] rest = {x.alike(0, 3), x.sure(0, 3), x.pause(), x.next(), x.partings(), x.named(-1), x.again()};
        for (long answer : rest) {
            all.add(answer);
        }
        return all;
    }

    private static void viewOne(MasonMarks x, int i, List<Long> all) {
        for (int what = 0; what < 4; what++) {
            all.add((long) x.sign(i, what));
        }
        for (int what = 0; what < 3; what++) {
            all.add((long) x.men(i, what));
        }
        for (int j = 0; j < 2; j++) {
            all.add((long) x.asks(i, j));
            all.add((long) x.may(i, j));
            all.add(x.odds(i, j, 0));
            all.add(x.odds(i, j, 1));
        }
        all.add((long) x.named(i));
        all.add((long) x.grown(i));
    }

    /** An object with something written behind what is laid, and with two walls kept that are unlike. */
    private static MasonMarks full(String text) {
        MasonMarks x = Due.laid(text);
        x.keep();
        x.read(0, 1);
        x.keep();
        x.read(0, 98);
        Due.write(x, "w7;x" + "1".repeat(496 - text.length()));
        return x;
    }

    private static MasonMarks bare(String text) {
        return Due.laid(text);
    }

    private static void leavesAll(String why, MasonMarks x, long due, ToLongFunction<MasonMarks> call) {
        List<Long> before = view(x);
        Due.is(why, call.applyAsLong(x), due);
        Due.holds(why + ": nothing changes", before.equals(view(x)));
        Due.is(why + " once more", call.applyAsLong(x), due);
    }

    /** What is kept can be seen only by taking it back. */
    private static void leavesKept(String why, ToLongFunction<MasonMarks> call) {
        MasonMarks x = full(WALL);
        call.applyAsLong(x);
        Due.is(why + ": kept as before", x.back(), 1);
        Due.is(why + ": kept as before", x.stones(0, 1), 1);
        Due.is(why + ": kept as before", x.stones(0, 99), 1);
        Due.is(why + ": kept as before", x.back(), 0);
        Due.is(why + ": kept as before", x.stones(0, 1), 0);
        Due.is(why + ": kept as before", x.stones(0, 99), 2);
    }

    private static void refused(String why, long due, ToLongFunction<MasonMarks> call) {
        leavesAll(why, full(WALL), due, call);
        leavesKept(why, call);
    }

    private static void refusedCalls() {
        refused("write FULL", FULL, x -> x.write(1, ';'));
        refused("write BAD", BAD, x -> x.write(9, ';'));
        refused("lay NO", NO, MasonMarks::lay);
        refused("keep FULL", FULL, MasonMarks::keep);
        refused("read BAD", BAD, x -> x.read(0, 99));
        refused("read BAD", BAD, x -> x.read(0, 2));
        refused("read BAD", BAD, x -> x.read(2, 0));
        refused("read NO", NO, x -> x.read(0, 0));
        refused("read NO", NO, x -> x.read(1, 98));
        leavesAll("back NO", bare(WALL), NO, MasonMarks::back);
        leavesAll("read NO", bare(WALL), NO, x -> x.read(1, 1));
        leavesAll("back NO without ORDER", bare(ROUND), NO, MasonMarks::back);
    }

    private static void badNumbers() {
        for (int wrong : new int[] {LEAST, -5, 2, 31, 32, 97, 100, MOST}) {
            refused("sign " + wrong, BAD, x -> x.sign(wrong, 0));
            refused("stones " + wrong, BAD, x -> x.stones(wrong, 0));
            refused("in " + wrong, BAD, x -> x.in(0, wrong));
            refused("read " + wrong, BAD, x -> x.read(wrong, 98));
            refused("alike " + wrong, BAD, x -> x.alike(0, wrong));
            refused("chance " + wrong, BAD, x -> x.chance(wrong, 3, 0));
            refused("sure " + wrong, BAD, x -> x.sure(wrong, 3));
            refused("seam " + wrong, BAD, x -> x.seam(wrong, 0));
            refused("men " + wrong, BAD, x -> x.men(wrong, 0));
            refused("asks " + wrong, BAD, x -> x.asks(wrong, 0));
            refused("may " + wrong, BAD, x -> x.may(wrong, 0));
            refused("odds " + wrong, BAD, x -> x.odds(0, wrong, 0));
            refused("named " + wrong, BAD, x -> x.named(wrong));
            refused("grown " + wrong, BAD, x -> x.grown(wrong));
            refused("found " + wrong, BAD, x -> x.found(0, 2, wrong, 1, 0, 0));
        }
        refused("best", BAD, x -> x.best(-3));
        refused("count", BAD, x -> x.count(7));
        refused("write", BAD, x -> x.write(0, 0));
    }

    private static void withoutOrder() {
        leavesAll("best NONE", bare(ROUND), NONE, x -> x.best(0));
        leavesAll("sure NONE", bare(ROUND), NONE, x -> x.sure(0, 3));
        leavesAll("seam NONE", bare(ROUND), NONE, x -> x.seam(0, 2));
        leavesAll("pause NONE", bare(ROUND), NONE, MasonMarks::pause);
        leavesAll("next NONE", bare(ROUND), NONE, MasonMarks::next);
        leavesAll("again NONE", bare(ROUND), NONE, MasonMarks::again);
    }

    private static void askingCalls() {
        refused("fault", WALL.length() + 3, MasonMarks::fault);
        refused("next", NONE, MasonMarks::next);
        refused("found", 1, x -> x.found(7, 6, 719, 12, 60, 2));
        refused("found", 720, x -> x.found(7, 6, 0, 12, 0, 1));
        refused("partings", 2, MasonMarks::partings);
        refused("count", 500, x -> x.count(4));
        leavesAll("next", bare(WALL), 0, MasonMarks::next);
        leavesAll("fault", bare(WALL), NONE, MasonMarks::fault);
    }

    private static void changingCalls() {
        String[] names = {"wipe", "lay", "read", "back", "keep", "write"};
        List<ToLongFunction<MasonMarks>> calls = List.of(MasonMarks::wipe, MasonMarks::lay, x -> x.read(0, 1),
            x -> x.keep() + x.read(0, 1) + x.keep() + x.back(), MasonMarks::keep, x -> x.write(1, 'x'));
        for (int i = 0; i < names.length; i++) {
            MasonMarks x = bare(WALL);
            List<Long> before = view(x);
            calls.get(i).applyAsLong(x);
            boolean same = names[i].equals("lay");
            Due.holds(names[i] + " can be seen in the view", before.equals(view(x)) == same);
        }
    }

    /** 512 calls are promised: the last of them answers as the first does. */
    private static void lastCalls() {
        MasonMarks x = new MasonMarks();
        Due.write(x, "c0,0,0;t0,99,99;t0,99,99;t0,99,99;t0,99,99;t0,99,99;t0,99,99;");
        Due.is("one COURSE", x.lay(), 1);
        // Ten calls were made: how long the text is, eight writes and lay.
        for (int call = 10; call < 512; call++) {
            Due.is("call " + call, x.read(0, 98), 594 + 9 - call);
        }
    }

    public static void main(String[] args) {
        refusedCalls();
        badNumbers();
        withoutOrder();
        askingCalls();
        changingCalls();
        lastCalls();
        Due.end();
    }
}
