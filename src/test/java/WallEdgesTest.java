/** Edges of the wall as it stands, of reading and of keeping (promises 6 to 9 and 26 to 28). */
public final class WallEdgesTest {
    private static final int BAD = MasonMarks.BAD, NO = MasonMarks.NO, FULL = MasonMarks.FULL, NONE = MasonMarks.NONE;
    private static final int LEAST = Integer.MIN_VALUE, MOST = Integer.MAX_VALUE;
    private static final int[] NEVER_TOLD = {LEAST, LEAST + 1, -33, -32, -5, -4, -3, -2, -1, 16, 17, 18, 31, 32, 33, 64,
        97, 100, 255, 256, 1 << 16, 1 << 20, MOST - 1, MOST};

    /** All SIGNS and COURSES that may be; the last of both show something. */
    private static final String FULL_WALL = "g1,99;".repeat(15) + "g9,14;" + "c0,0,0;".repeat(15)
        + "c5,0,0;t15,15,3;t15,98,4;t15,99,5;t0,0,6;t14,98,7;t14,99,8;";

    private WallEdgesTest() {
    }

    // ---- promise 6

    private static void signNumbers() {
        MasonMarks x = Due.laid(FULL_WALL);
        int[] first = {1, NONE, 6, 1};
        int[] last = {9, 14, 3, 32};
        for (int what = 0; what < 4; what++) {
            Due.is("6 the first SIGN", x.sign(0, what), first[what]);
            Due.is("6 the last SIGN of 16", x.sign(15, what), last[what]);
        }
        for (int k : NEVER_TOLD) {
            Due.is("6 BAD: SIGN " + k, x.sign(k, 0), BAD);
        }
        for (int k : new int[] {98, 99}) {
            Due.is("6 BAD: no SIGN, but none, or not seen: " + k, x.sign(k, 2), BAD);
        }
        for (int what : new int[] {LEAST, -2, -1, 4, 5, 32, MOST}) {
            Due.is("6 BAD: what " + what, x.sign(0, what), BAD);
        }
        MasonMarks one = Due.laid("g5,99;");
        Due.is("6 one SIGN", one.sign(0, 0), 5);
        Due.is("6 BAD: a second one", one.sign(1, 0), BAD);
    }

    private static void signOfNoStone() {
        MasonMarks x = Due.laid("g5,99;g1,0;c0,0,0;t0,98,9;t0,99,9;");
        Due.is("6 from none: NONE", x.sign(0, 1), NONE);
        Due.is("6 from the first: 0, not NONE", x.sign(1, 1), 0);
        Due.is("6 shown by no stone", x.sign(0, 2), 0);
        Due.is("6 IN no PART", x.sign(0, 3), 0);
    }

    private static void signInAllParts() {
        MasonMarks x = Due.laid("g5,99;c0,0,0;c1,0,0;c2,0,0;c3,0,0;c4,0,0;c5,0,0;t0,0,1;t1,0,1;t2,0,1;t3,0,1;t4,0,1;t5,0,1;");
        Due.is("6 IN all PARTS", x.sign(0, 3), 63);
        MasonMarks y = Due.laid("g5,99;c5,0,0;c5,0,0;c5,0,0;t0,0,99;t1,0,99;t2,0,99;t2,0,99;");
        Due.is("6 IN one PART by three COURSES", y.sign(0, 3), 32);
        Due.is("6 stones of all COURSES", y.sign(0, 2), 396);
    }

    // ---- promises 7 and 8

    private static void stonesNumbers() {
        MasonMarks x = Due.laid(FULL_WALL);
        int[][] due = {{0, 0, 6}, {0, 15, 0}, {0, 98, 0}, {0, 99, 0}, {14, 98, 7}, {14, 99, 8}, {14, 15, 0}, {15, 0, 0},
            {15, 15, 3}, {15, 98, 4}, {15, 99, 5}};
        for (int[] d : due) {
            Due.is("7 stones " + d[0] + " " + d[1], x.stones(d[0], d[1]), d[2]);
        }
        for (int wrong : NEVER_TOLD) {
            Due.is("7 BAD: COURSE " + wrong, x.stones(wrong, 0), BAD);
            Due.is("7 BAD: COURSE " + wrong, x.stones(wrong, 99), BAD);
            Due.is("7 BAD: SIGN " + wrong, x.stones(15, wrong), BAD);
            Due.is("7 BAD: both", x.stones(wrong, wrong), BAD);
        }
        Due.is("7 BAD: 98 is no COURSE", x.stones(98, 0), BAD);
        Due.is("7 BAD: 99 is no COURSE", x.stones(99, 0), BAD);
        MasonMarks y = Due.laid("c0,0,0;");
        Due.is("7 98 needs no SIGN", y.stones(0, 98), 0);
        Due.is("7 99 needs no SIGN", y.stones(0, 99), 0);
        Due.is("7 BAD: there is no SIGN", y.stones(0, 0), BAD);
        Due.is("7 BAD: one COURSE", y.stones(1, 98), BAD);
    }

    private static void partNumbers() {
        MasonMarks x = Due.laid(FULL_WALL);
        int[][] due = {{0, 0, 6}, {0, 15, 0}, {0, 98, 7}, {0, 99, 8}, {5, 15, 3}, {5, 98, 4}, {5, 99, 5}, {5, 0, 0}};
        for (int[] d : due) {
            Due.is("8 in " + d[0] + " " + d[1], x.in(d[0], d[1]), d[2]);
        }
        for (int wrong : NEVER_TOLD) {
            Due.is("8 BAD: PART " + wrong, x.in(wrong, 0), BAD);
            Due.is("8 BAD: SIGN " + wrong, x.in(5, wrong), BAD);
        }
        for (int p : new int[] {1, 2, 3, 4, 6, 98, 99}) {
            Due.is("8 BAD: no COURSE of PART " + p, x.in(p, 98), BAD);
        }
        MasonMarks y = Due.laid("b4,3;c3,0,0;");
        Due.is("8 a PART without stones", y.in(3, 98), 0);
        Due.is("8 BAD: told by b alone", y.in(4, 98), BAD);
        Due.is("8 BAD: there is no SIGN", y.in(3, 0), BAD);
    }

    private static void manyStones() {
        MasonMarks x = Due.laid("c0,0,0;" + "t0,99,99;".repeat(54));
        Due.is("7 54 times 99 stones", x.stones(0, 99), 5346);
        Due.is("8 54 times 99 stones", x.in(0, 99), 5346);
        Due.is("28 54 times 99 stones", x.count(6), 5346);
        Due.is("9 one of them", x.read(0, 98), 5345);
        Due.is("17 their PACE", x.men(0, 2), 5346);
        Due.is("17 at least", x.men(0, 0), 446);
        Due.is("17 at most", x.men(0, 1), 5346);
    }

    // ---- promise 9

    private static void readNumbers() {
        MasonMarks x = Due.laid(FULL_WALL);
        for (int wrong : NEVER_TOLD) {
            Due.is("9 BAD: COURSE " + wrong, x.read(wrong, 0), BAD);
            Due.is("9 BAD: SIGN " + wrong, x.read(15, wrong), BAD);
        }
        Due.is("9 BAD: 99 can not be seen", x.read(15, 99), BAD);
        Due.is("9 BAD: 98 is no COURSE", x.read(98, 98), BAD);
        Due.is("9 BAD ahead of NO", x.read(0, 99), BAD);
        Due.is("9 BAD ahead of NO", x.read(0, 16), BAD);
        Due.is("9 NO: all can be seen", x.read(0, 0), NO);
        Due.is("9 NO: for 98, too", x.read(0, 98), NO);
        Due.is("9 nothing changed", x.count(6), 33);
        Due.is("9 nothing changed", x.stones(15, 99), 5);
        Due.is("9 the last SIGN in the last COURSE", x.read(15, 15), 4);
        Due.is("9 it shows", x.stones(15, 15), 4);
        Due.is("9 the COURSE ahead is as it was", x.stones(14, 99), 8);
    }

    private static void readToTheLast() {
        MasonMarks x = Due.laid("g1,99;c0,0,0;c0,0,0;t0,99,2;t1,99,1;");
        Due.is("9 one is left", x.read(0, 98), 1);
        Due.is("9 none is left", x.read(0, 0), 0);
        Due.is("9 NO: none is left", x.read(0, 0), NO);
        Due.is("9 NO: none is left", x.read(0, 98), NO);
        Due.is("9 NO: nothing changes", x.stones(0, 0), 1);
        Due.is("9 NO: nothing changes", x.stones(0, 99), 0);
        Due.is("9 of that COURSE, not of its PART", x.stones(1, 99), 1);
        Due.is("9 the other COURSE", x.read(1, 0), 0);
        Due.is("9 the SIGN is IN", x.in(0, 0), 2);
        Due.is("9 no stone more", x.count(6), 3);
    }

    private static void readChangesWhatFollows() {
        MasonMarks x = Due.laid("g1,99;g1,0;c0,0,0;c1,0,0;c2,0,0;t0,0,1;t2,99,1;t1,99,1;");
        Due.is("9 ahead: alike", x.alike(0, 2), 0);
        Due.is("9 ahead: orders", x.best(-2), 6);
        Due.is("9 ahead: grown", x.grown(1), NO);
        Due.is("9 ahead: partings", x.partings(), 0);
        x.read(2, 0);
        Due.is("9 behind: alike", x.alike(0, 2), 1000);
        Due.is("9 behind: orders", x.best(-2), 4);
        x.read(1, 1);
        Due.is("9 behind: grown", x.grown(1), 2);
        Due.is("9 behind: men", x.men(1, 0), 1);
        Due.is("9 behind: asks", x.asks(1, 1), 1);
    }

    // ---- promises 26 and 27

    private static void twoAtMost() {
        MasonMarks x = Due.laid("g1,99;c0,0,0;t0,99,5;");
        Due.is("27 NO: nothing KEPT", x.back(), NO);
        Due.is("27 NO: nothing changes", x.stones(0, 99), 5);
        Due.is("26 the first", x.keep(), 1);
        x.read(0, 0);
        Due.is("26 the second", x.keep(), 2);
        x.read(0, 0);
        for (int i = 0; i < 3; i++) {
            Due.is("26 FULL", x.keep(), FULL);
        }
        Due.is("26 FULL: nothing changes", x.count(5), 2);
        Due.is("26 FULL: nothing changes", x.stones(0, 99), 3);
        Due.is("27 as KEPT last", x.back(), 1);
        Due.is("27 not as at a refused keep", x.stones(0, 99), 4);
        Due.is("27 as KEPT first", x.back(), 0);
        Due.is("27 as KEPT first", x.stones(0, 99), 5);
        Due.is("27 NO: none is left", x.back(), NO);
        Due.is("27 NO: nothing changes", x.stones(0, 99), 5);
        Due.is("26 room again", x.keep(), 1);
    }

    private static void keptIsACopy() {
        MasonMarks x = Due.laid("g1,99;c0,0,0;c1,0,0;t0,99,5;t1,99,2;");
        x.keep();
        x.read(0, 0);
        x.read(1, 98);
        Due.is("27 back", x.back(), 0);
        int[][] due = {{0, 0, 0}, {0, 98, 0}, {0, 99, 5}, {1, 0, 0}, {1, 98, 0}, {1, 99, 2}};
        for (int[] d : due) {
            Due.is("27 all stones: " + d[0] + " " + d[1], x.stones(d[0], d[1]), d[2]);
        }
        x.read(0, 0);
        Due.is("26 KEPT once more", x.keep(), 1);
        Due.is("27 the wall is not what is KEPT", x.read(0, 0), 3);
        Due.is("27 back at once", x.back(), 0);
        Due.is("27 as KEPT last", x.stones(0, 0), 1);
        Due.is("27 what follows, too", x.sign(0, 3), 1);
    }

    private static void backAndReadOn() {
        MasonMarks x = Due.laid("g1,99;c0,0,0;t0,99,5;");
        x.keep();
        x.keep();
        x.read(0, 0);
        x.back();
        x.read(0, 98);
        Due.is("27 the one below is as it was KEPT", x.back(), 0);
        Due.is("27 the one below is as it was KEPT", x.stones(0, 99), 5);
        Due.is("27 the one below is as it was KEPT", x.stones(0, 98), 0);
    }

    private static void onlyLayAndBackTakeKept() {
        MasonMarks x = Due.laid("g1,99;c0,0,0;t0,99,5;");
        x.keep();
        x.wipe();
        x.write(1, 'x');
        x.fault();
        Due.is("5 NO", x.lay(), NO);
        x.next();
        x.found(0, 2, 0, 1, 0, 0);
        Due.is("26 still KEPT", x.count(5), 1);
        x.wipe();
        Due.write(x, "g1,99;c0,0,0;t0,98,1;");
        x.lay();
        Due.is("5 nothing KEPT", x.count(5), 0);
        Due.is("27 NO", x.back(), NO);
        Due.is("27 NO: nothing changes", x.stones(0, 98), 1);
        Due.is("26 room for two again", x.keep() + x.keep(), 3);
    }

    private static void emptyWallKept() {
        MasonMarks x = new MasonMarks();
        Due.is("26 the empty wall", x.keep(), 1);
        Due.is("26 twice", x.keep(), 2);
        Due.is("26 FULL", x.keep(), FULL);
        Due.is("27 back", x.back(), 1);
        Due.is("27 back", x.back(), 0);
        Due.is("27 NO", x.back(), NO);
    }

    // ---- promise 28

    private static void counts() {
        MasonMarks x = Due.laid(FULL_WALL);
        int[] due = {16, 16, 2, 0, FULL_WALL.length(), 0, 33};
        for (int what = 0; what <= 6; what++) {
            Due.is("28 count " + what, x.count(what), due[what]);
        }
        for (int what : new int[] {LEAST, -4, -1, 7, 8, 32, 98, MOST}) {
            Due.is("28 BAD: what " + what, x.count(what), BAD);
        }
        Due.is("28 10 NAMES", Due.laid("n0,0;".repeat(10)).count(3), 10);
        Due.is("28 NAMES there twice", Due.laid("n0,0;a0,5,5;").count(3), 1);
        Due.is("28 PARTS by COURSES, not by b", Due.laid("b0,1;c5,0,0;").count(2), 1);
        Due.is("28 six PARTS", Due.laid("c5,0,0;c4,0,0;c3,0,0;c2,0,0;c1,0,0;c0,0,0;c0,0,0;").count(2), 6);
        MasonMarks y = Due.laid("g1,99;");
        y.write(1, 0);
        Due.is("28 bytes of THE TEXT, not of the one LAID", y.count(4), 7);
        Due.is("28 SIGNS of the one LAID", y.count(0), 1);
    }

    public static void main(String[] args) {
        signNumbers();
        signOfNoStone();
        signInAllParts();
        stonesNumbers();
        partNumbers();
        manyStones();
        readNumbers();
        readToTheLast();
        readChangesWhatFollows();
        twoAtMost();
        keptIsACopy();
        backAndReadOn();
        onlyLayAndBackTakeKept();
        emptyWallKept();
        counts();
        Due.end();
    }
}
