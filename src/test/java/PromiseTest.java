/** Answers worked out by hand from the document, promise by promise. */
public final class PromiseTest {
    private static final int BAD = MasonMarks.BAD, NO = MasonMarks.NO, FULL = MasonMarks.FULL, NONE = MasonMarks.NONE;

    /** Signs of 1, 2 and 4 strokes: 0 in parts 0 and 2, 1 in parts 0 and 1, 2 in part 2. */
    private static final String THREE =
        "g1,99;g2,99;g4,99;c0,0,0;c1,0,0;c2,0,0;t0,0,1;t2,0,1;t0,1,1;t1,1,1;t2,2,1;";
    private static final String ROUND = "c0,0,0;c1,0,0;c2,0,0;b0,1;b1,2;b2,0;";
    /** Sign 0 asks one week of course 0, sign 1 two, sign 2 shows nowhere. */
    private static final String ROLLS = "g1,99;g1,99;g1,99;c0,0,1;t0,0,5;t0,1,20;w10;n0,0;n0,1;n1,5;";

    private PromiseTest() {
    }

    private static String times(int n, String item) {
        return item.repeat(n);
    }

    private static void newObject() {
        MasonMarks x = new MasonMarks();
        for (int what = 0; what < 7; what++) {
            Due.is("1 count " + what, x.count(what), 0);
        }
        Due.is("1 fault", x.fault(), NONE);
        Due.is("1 one empty order", x.best(-2), 1);
        Due.is("1 its gaps", x.best(-1), 0);
        Due.is("1 nothing kept", x.back(), NO);
        Due.is("1 one way", x.partings(), 1);
    }

    private static void writing() {
        MasonMarks x = new MasonMarks();
        for (int n : new int[] {0, 9, -1, Integer.MIN_VALUE, Integer.MAX_VALUE}) {
            Due.is("2 write BAD", x.write(n, 0), BAD);
        }
        Due.is("2 nothing changed", x.count(4), 0);
        Due.is("2 lowest three, highest first", x.write(3, 0x7878_7877_373BL), 3);
        Due.is("2 fault of w7;", x.fault(), NONE);
        Due.is("2 wipe", x.wipe(), 3);
        Due.is("2 eight", x.write(8, 0x6E30_2C30_3B77_313BL), 8);
        Due.is("2 fault of n0,0;w1;", x.fault(), NONE);
        for (int i = 2; i <= 62; i++) {
            Due.is("2 how long", x.write(8, -1), 8 * i);
        }
        Due.is("2 fault of byte 255", x.fault(), 8);
        Due.is("2 FULL", x.write(5, 0), FULL);
        Due.is("2 nothing changed", x.count(4), 496);
        Due.is("2 500", x.write(4, 0), 500);
        Due.is("2 FULL", x.write(1, 0), FULL);
        Due.is("2 BAD ahead of FULL", x.write(9, 0), BAD);
    }

    private static void wiping() {
        MasonMarks x = Due.laid(THREE);
        Due.is("3 wipe", x.wipe(), THREE.length());
        Due.is("3 wipe again", x.wipe(), 0);
        Due.is("3 length", x.count(4), 0);
        Due.is("3 the wall still stands", x.count(1), 3);
        Due.is("3 fault of an empty text", x.fault(), NONE);
        Due.is("3 write behind nothing", x.write(1, 'w'), 1);
    }

    private static void faultOf(String text, int due) {
        MasonMarks x = new MasonMarks();
        Due.write(x, text);
        Due.is("4 fault of " + text, x.fault(), due);
        int courses = text.length() - text.replace("c", "").length();
        Due.is("5 lay of " + text, x.lay(), due == NONE ? courses : NO);
    }

    private static void faults() {
        String[] fine = {"", "g1,99;", "g9,99;", "g001,099;", "g1,99;g1,0;g1,1;", "c0,0,0;", "c5,23,23;", "c0,0,23;",
            "c0,0,0;t0,98,1;", "c0,0,0;t0,99,99;", "g1,99;c0,0,0;t0,0,1;", "b5,0;", "b0,5;", "b0,1;b0,1;b1,0;",
            "n0,0;", "n23,23;", "n0,23;", "n0,0;a0,23,23;", "w1;", "w99;", "w1;w2;", "w007;"};
        for (String text : fine) {
            faultOf(text, NONE);
        }
        String[] wrong = {"g0,99;", "g10,99;", "g1,0;", "g1,98;", "g1,100;", "c6,0,0;", "c0,24,24;", "c0,0,24;",
            "c0,1,0;", "t0,98,1;", "b0,0;", "b6,0;", "b0,6;", "n24,24;", "n0,24;", "n1,0;", "a0,0,0;", "w0;", "w100;",
            "x1;", "g1,99", "g1,99,", "g1,99,1;", "g1;", "g;", "g,99;", "g1,;", "g0001,99;", "g1,0099;", "w0001;", "w;",
            "w1", "w1,", "w", ";", ",", "1", " w1;", "W1;", "w-1;", "w+1;", "w 1;", "w1 ;",
            "c0,0;", "t0,98;", "b0;", "n0;", "a0,0;", "b0,1,2;", "n0,1,2;", "w1,2;", "c0,0,0,0;"};
        for (String text : wrong) {
            faultOf(text, 0);
            faultOf("w1;n1,1;" + text, text.equals("a0,0,0;") ? NONE : 8);
        }
        String[] behind = {"t0,0,1;", "t1,98,1;", "t0,97,1;", "t0,100,1;", "t0,99,0;", "t0,99,100;"};
        for (String text : behind) {
            faultOf("c0,0,0;" + text + "w1;", 7);
        }
        faultOf("n1,2;a0,3,2;", 5);
        faultOf("n1,2;a1,3,3;", 5);
        faultOf("n1,2;a0,0,24;", 5);
        faultOf("w1;;", 3);
        faultOf("w1;x;g", 3);
        faultOf(times(16, "g1,99;"), NONE);
        faultOf(times(17, "g1,99;"), 96);
        faultOf(times(16, "c0,0,0;"), NONE);
        faultOf(times(17, "c0,0,0;"), 112);
        faultOf(times(10, "n0,0;"), NONE);
        faultOf(times(11, "n0,0;"), 50);
        faultOf(times(166, "w1;"), NONE);
        faultOf(times(166, "w1;") + "w1", 498);
        faultOf("w1;w1\u00bb", 3);
    }

    private static void laying() {
        MasonMarks x = Due.laid("g1,99;c0,0,0;t0,0,7;t0,99,2;");
        Due.is("5 keep", x.keep(), 1);
        Due.write(x, "w0;");
        Due.is("5 NO", x.lay(), NO);
        Due.is("5 the wall still stands", x.stones(0, 0), 7);
        Due.is("5 still kept", x.count(5), 1);
        x.wipe();
        Due.write(x, "c0,0,0;c1,0,0;");
        Due.is("5 not laid yet", x.count(1), 1);
        Due.is("5 lay", x.lay(), 2);
        Due.is("5 nothing kept", x.count(5), 0);
        Due.is("5 nothing kept", x.back(), NO);
        Due.is("5 no signs now", x.count(0), 0);
        Due.is("5 no stones now", x.count(6), 0);
        Due.is("5 laid once more", x.lay(), 2);
        MasonMarks y = Due.laid("g1,99;c0,0,1;t0,0,5;t0,0,95;w99;w50;");
        Due.is("5 stones more, the last w", y.asks(0, 0), 2);
        y.wipe();
        Due.write(y, "g1,99;c0,0,1;t0,0,5;t0,0,95;");
        y.lay();
        Due.is("5 12 without w", y.asks(0, 0), 9);
    }

    private static void signs() {
        MasonMarks x = Due.laid("g3,99;g9,0;g1,1;c5,0,0;c2,0,0;c5,0,0;t0,1,4;t1,1,5;t2,1,6;t2,0,1;t1,98,9;");
        int[][] due = {{3, NONE, 1, 32}, {9, 0, 15, 36}, {1, 1, 0, 0}};
        for (int k = 0; k < 3; k++) {
            for (int what = 0; what < 4; what++) {
                Due.is("6 sign " + k + " " + what, x.sign(k, what), due[k][what]);
            }
            Due.is("6 BAD", x.sign(k, 4), BAD);
            Due.is("6 BAD", x.sign(k, -1), BAD);
        }
        for (int k : new int[] {-1, 3, 98, 99, 16}) {
            Due.is("6 BAD", x.sign(k, 0), BAD);
        }
    }

    private static void stonesAndParts() {
        MasonMarks x = Due.laid("g3,99;g9,0;c5,0,0;c2,0,0;c5,0,0;t0,1,4;t1,1,5;t2,1,6;t2,98,9;t2,98,1;t0,99,3;t2,99,99;");
        Due.is("7 of a sign", x.stones(0, 1), 4);
        Due.is("7 none", x.stones(0, 0), 0);
        Due.is("7 98", x.stones(2, 98), 10);
        Due.is("7 99", x.stones(0, 99), 3);
        MasonMarks all = Due.laid(times(16, "g1,99;") + "c0,0,0;c1,0,0;t0,15,3;t0,98,4;t0,99,5;t1,0,6;");
        Due.is("7 the last sign", all.stones(0, 15), 3);
        Due.is("7 98", all.stones(0, 98), 4);
        Due.is("7 99", all.stones(0, 99), 5);
        Due.is("7 the next course", all.stones(1, 0), 6);
        Due.is("7 the next course", all.stones(1, 99), 0);
        Due.is("7 BAD: no 17th sign", all.stones(0, 16), BAD);
        Due.is("7 BAD: no 18th sign", all.stones(0, 17), BAD);
        Due.is("7 BAD", x.stones(3, 0), BAD);
        Due.is("7 BAD", x.stones(-1, 0), BAD);
        Due.is("7 BAD", x.stones(0, 2), BAD);
        Due.is("7 BAD", x.stones(0, 97), BAD);
        Due.is("7 BAD", x.stones(0, 100), BAD);
        Due.is("7 BAD", x.stones(0, -1), BAD);
        Due.is("8 of a sign", x.in(5, 1), 10);
        Due.is("8 98", x.in(5, 98), 10);
        Due.is("8 99", x.in(5, 99), 102);
        Due.is("8 none", x.in(2, 0), 0);
        Due.is("8 BAD: no such part", x.in(0, 0), BAD);
        Due.is("8 BAD", x.in(6, 0), BAD);
        Due.is("8 BAD", x.in(-1, 0), BAD);
        Due.is("8 BAD", x.in(5, 2), BAD);
        Due.is("8 BAD", x.in(5, 97), BAD);
    }

    private static void reading() {
        MasonMarks x = Due.laid("g1,99;g1,99;c0,0,0;c1,0,0;t0,99,3;t1,0,1;");
        Due.is("9 BAD: 99", x.read(0, 99), BAD);
        Due.is("9 BAD", x.read(0, 2), BAD);
        Due.is("9 BAD", x.read(2, 0), BAD);
        Due.is("9 BAD", x.read(-1, 0), BAD);
        Due.is("9 NO", x.read(1, 0), NO);
        Due.is("9 BAD ahead of NO", x.read(1, 99), BAD);
        Due.is("9 nothing changed", x.stones(0, 99), 3);
        Due.is("9 nothing changed", x.stones(1, 0), 1);
        Due.is("9 a sign", x.read(0, 1), 2);
        Due.is("9 none", x.read(0, 98), 1);
        Due.is("9 a sign", x.read(0, 1), 0);
        Due.is("9 NO", x.read(0, 1), NO);
        Due.is("9 shows", x.stones(0, 1), 2);
        Due.is("9 shows none", x.stones(0, 98), 1);
        Due.is("9 can not be seen", x.stones(0, 99), 0);
        Due.is("9 as many stones", x.count(6), 4);
        Due.is("9 is in", x.sign(1, 3), 1);
    }

    private static void alikeAndChance() {
        MasonMarks x = Due.laid(THREE + "c4,0,0;c5,0,0;t3,98,1;");
        Due.is("10 2 of 3", x.alike(0, 1), 666);
        Due.is("10 the other way", x.alike(1, 0), 666);
        Due.is("10 1 of 7", x.alike(0, 2), 142);
        Due.is("10 none of 7", x.alike(1, 2), 0);
        Due.is("10 no signs", x.alike(4, 5), 0);
        int[][] wrong = {{0, 0}, {0, 3}, {3, 0}, {0, 6}, {-1, 0}, {3, 3}};
        for (int[] w : wrong) {
            Due.is("10 BAD", x.alike(w[0], w[1]), BAD);
            Due.is("11 BAD", x.chance(w[0], w[1], 0), BAD);
            Due.is("13 BAD", x.sure(w[0], w[1]), BAD);
        }
        Due.is("11 BAD", x.chance(0, 1, 3), BAD);
        Due.is("11 BAD", x.chance(0, 1, -1), BAD);
        chanceIs(x, 0, 1, 2, 3, 1);
        chanceIs(x, 0, 2, 1, 1, 1);
        chanceIs(x, 1, 2, 1, 1, 0);
        chanceIs(x, 4, 5, 1, 1, 0);
        // All of 8 of 16: one lot of 12870. Signs that show nowhere count among the 16.
        String eight = times(16, "g1,99;") + "c0,0,0;c1,0,0;";
        for (int k = 0; k < 8; k++) {
            eight += "t0," + k + ",1;t1," + k + ",1;";
        }
        chanceIs(Due.laid(eight), 0, 1, 1, 12870, 8);
        chanceIs(Due.laid("c0,0,0;c1,0,0;"), 0, 1, 1, 1, 0);
        // 2 and 3 of 5 with 2: C(3,1) of C(5,3).
        String five = times(5, "g1,99;") + "c0,0,0;c1,0,0;t0,0,1;t0,1,1;t1,0,1;t1,1,1;t1,2,1;";
        chanceIs(Due.laid(five), 0, 1, 3, 10, 2);
        chanceIs(Due.laid(five), 1, 0, 3, 10, 2);
    }

    private static void chanceIs(MasonMarks x, int p, int q, int above, int below, int shared) {
        Due.is("11 above " + p + " " + q, x.chance(p, q, 0), above);
        Due.is("11 below " + p + " " + q, x.chance(p, q, 1), below);
        Due.is("11 c " + p + " " + q, x.chance(p, q, 2), shared);
    }

    private static void bestIs(String text, int gaps, int orders, int... row) {
        MasonMarks x = Due.laid(text);
        Due.is("12 gaps of " + text, x.best(-1), gaps);
        Due.is("12 orders of " + text, x.best(-2), orders);
        for (int i = 0; i < row.length; i++) {
            Due.is("12 place " + i + " of " + text, x.best(i), row[i]);
        }
        Due.is("12 NONE beyond", x.best(row.length), NONE);
        Due.is("12 NONE beyond", x.best(Integer.MAX_VALUE), NONE);
        Due.is("12 BAD", x.best(-3), BAD);
        Due.is("12 BAD", x.best(Integer.MIN_VALUE), BAD);
    }

    private static void bests() {
        bestIs("", 0, 1);
        bestIs("c4,0,0;", 0, 1, 4);
        bestIs(THREE, 0, 2, 1, 0, 2);
        bestIs(THREE + "b0,2;", 0, 1, 2, 0, 1);
        bestIs("c5,0,0;c3,0,0;c1,0,0;", 0, 6, 1, 3, 5);
        // Each two of three parts share a sign: the one of one stroke leaves off.
        String pairs = "g1,99;g2,99;g4,99;c0,0,0;c1,0,0;c2,0,0;t0,0,1;t1,0,1;t1,1,1;t2,1,1;t0,2,1;t2,2,1;";
        bestIs(pairs, 1, 2, 0, 2, 1);
        bestIs(pairs + "b2,0;b2,1;", 2, 1, 1, 0, 2);
        bestIs("c0,0,0;c1,0,0;b0,1;", 0, 1, 1, 0);
        // 1 is no part: neither must 2 be behind 0 by way of it, nor does b go round.
        bestIs("c0,0,0;c2,0,0;b2,1;b1,0;b0,1;", 0, 2, 0, 2);
        String all = "c0,0,0;c1,0,0;c2,0,0;c3,0,0;c4,0,0;c5,0,0;";
        bestIs(all, 0, 720, 0, 1, 2, 3, 4, 5);
        bestIs(all + "b0,1;b1,2;b2,3;b3,4;b4,5;", 0, 1, 5, 4, 3, 2, 1, 0);
        // A sign of 3 strokes at both ends, two parts it is not in between.
        bestIs("g3,99;c0,0,0;c1,0,0;c2,0,0;c3,0,0;t0,0,1;t3,0,1;b1,0;b2,1;b3,2;", 6, 1, 0, 1, 2, 3);
        MasonMarks x = Due.laid(ROUND);
        for (int i = -2; i < 4; i++) {
            Due.is("12 NONE: b goes round", x.best(i), NONE);
        }
        Due.is("12 BAD ahead of NONE", x.best(-3), BAD);
    }

    private static void sureOnes() {
        MasonMarks x = Due.laid(THREE);
        Due.is("13 not sure", x.sure(0, 1), 0);
        MasonMarks y = Due.laid(THREE + "b0,2;");
        Due.is("13 ahead", y.sure(0, 1), 1);
        Due.is("13 behind", y.sure(1, 0), 2);
        Due.is("13 behind", y.sure(0, 2), 2);
        Due.is("13 ahead", y.sure(2, 1), 1);
        MasonMarks z = Due.laid(ROUND);
        Due.is("13 NONE", z.sure(0, 1), NONE);
        Due.is("13 BAD ahead of NONE", z.sure(0, 0), BAD);
        Due.is("13 BAD ahead of NONE", z.sure(0, 3), BAD);
    }

    private static void seams() {
        MasonMarks x = Due.laid(THREE + "b0,2;");
        int[][] due = {{1, 1, 1}, {1, 1, 0}};
        for (int i = 0; i < 2; i++) {
            for (int what = 0; what < 3; what++) {
                Due.is("14 seam " + i + " " + what, x.seam(i, what), due[i][what]);
            }
        }
        Due.is("14 BAD", x.seam(2, 0), BAD);
        Due.is("14 BAD", x.seam(-1, 0), BAD);
        Due.is("14 BAD", x.seam(0, 3), BAD);
        Due.is("14 BAD", x.seam(0, -1), BAD);
        Due.is("15 fewest strokes", x.pause(), 0);
        Due.is("15 fewest strokes", Due.laid(THREE).pause(), 1);
        Due.is("15 the first", Due.laid("c0,0,0;c1,0,0;c2,0,0;").pause(), 0);
        Due.is("15 one part", Due.laid("c0,0,0;").pause(), NONE);
        Due.is("15 no part", new MasonMarks().pause(), NONE);
        Due.is("14 one part", Due.laid("c0,0,0;").seam(0, 0), BAD);
        MasonMarks y = Due.laid(ROUND);
        Due.is("14 NONE", y.seam(0, 0), NONE);
        Due.is("14 NONE", y.seam(1, 2), NONE);
        Due.is("14 BAD ahead of NONE", y.seam(2, 0), BAD);
        Due.is("14 BAD ahead of NONE", y.seam(0, 3), BAD);
        Due.is("15 NONE", y.pause(), NONE);
        // Order 0 1 2: two signs of 1 and 1 go over at first, then one of 3: strokes tell, not signs.
        String weighed = "g1,99;g1,99;g3,99;c0,0,0;c1,0,0;c2,0,0;b1,0;b2,1;t0,0,1;t1,0,1;t0,1,1;t1,1,1;t1,2,1;t2,2,1;";
        Due.is("15 strokes, not signs", Due.laid(weighed).pause(), 0);
        Due.is("14 two go over", Due.laid(weighed).seam(0, 0), 2);
        // A sign that is in 0 and 2, not in 1, goes over both seams, ends and begins at none of them.
        MasonMarks over = Due.laid("g1,99;c0,0,0;c1,0,0;c2,0,0;b1,0;b2,1;t0,0,1;t2,0,1;");
        for (int i = 0; i < 2; i++) {
            Due.is("14 over", over.seam(i, 0), 1);
            Due.is("14 no end", over.seam(i, 1), 0);
            Due.is("14 no begin", over.seam(i, 2), 0);
        }
    }

    private static void nextOnes() {
        String one = "g1,99;c0,0,0;c1,0,0;c2,0,0;t0,0,1;";
        Due.is("16 none can not be seen", Due.laid(one).next(), NONE);
        Due.is("16 as many as now", Due.laid(one + "t0,99,1;").next(), 0);
        Due.is("16 4 and 4", Due.laid(one + "t1,99,1;t2,99,9;").next(), 1);
        Due.is("16 6 and 4", Due.laid(one + "t0,99,9;t2,99,1;").next(), 2);
        Due.is("16 no signs", Due.laid("c3,0,0;c2,0,0;t0,99,1;t1,99,1;").next(), 2);
        Due.is("16 no parts", new MasonMarks().next(), NONE);
        Due.is("16 no order", Due.laid(ROUND + "t0,99,1;").next(), NONE);
        String worst = "g1,99;g1,99;c0,0,0;c1,0,0;c2,0,0;t0,0,1;t2,0,1;";
        Due.is("16 now 4", Due.laid(worst).best(-2), 4);
        // Part 1 showing sign 0 makes it 6 (all parts have it), sign 1 leaves 4; part 2 showing sign 1 leaves 4.
        Due.is("16 at worst", Due.laid(worst + "t1,99,1;t2,99,1;").next(), 2);
        // 0 1 2 and 0 2 1 now; if part 2 showed sign 0, which is in 0, only 0 2 1.
        Due.is("16 2 and 1", Due.laid(one + "b1,0;b2,0;t0,99,1;t2,99,1;").next(), 2);
        MasonMarks x = Due.laid(worst + "t1,99,1;t2,99,1;");
        x.next();
        Due.is("16 nothing changed", x.best(-2), 4);
        Due.is("16 nothing changed", x.in(2, 1), 0);
    }

    private static void menOf(String text, int least, int most, int pace) {
        MasonMarks x = Due.laid("g1,99;g2,99;c0,0,2;" + text);
        Due.is("17 at least " + text, x.men(0, 0), least);
        Due.is("17 at most " + text, x.men(0, 1), most);
        Due.is("17 pace " + text, x.men(0, 2), pace);
        Due.is("17 BAD", x.men(0, 3), BAD);
        Due.is("17 BAD", x.men(0, -1), BAD);
        Due.is("17 BAD", x.men(1, 0), BAD);
        Due.is("17 BAD", x.men(-1, 0), BAD);
    }

    private static void menAndWeeks() {
        menOf("", 0, 0, 0);
        menOf("t0,0,1;t0,1,1;", 2, 2, 1);
        menOf("t0,0,36;", 1, 1, 12);
        menOf("t0,0,37;", 2, 2, 13);
        menOf("t0,0,37;w99;", 1, 1, 13);
        menOf("t0,98,2;t0,99,3;t0,0,4;w1;", 3, 6, 3);
        menOf("t0,99,7;w1;", 3, 7, 3);
        menOf("t0,0,90;t0,98,1;w1;", 31, 31, 31);
        MasonMarks x = Due.laid("g1,99;g1,99;c0,0,0;c1,0,0;t0,0,24;t1,0,25;t0,98,9;");
        Due.is("18 24 by 12", x.asks(0, 0), 2);
        Due.is("18 25 by 12", x.asks(0, 1), 3);
        Due.is("18 not shown", x.asks(1, 0), 0);
        for (int wrong : new int[] {2, -1, 98, 99}) {
            Due.is("18 BAD", x.asks(wrong, 0), BAD);
            Due.is("18 BAD", x.asks(0, wrong), BAD);
        }
    }

    private static void names() {
        MasonMarks x = Due.laid(ROLLS);
        int[][] may = {{1, 0, 1}, {1, 1, 1}, {1, 0, 1}};
        for (int m = 0; m < 3; m++) {
            for (int k = 0; k < 3; k++) {
                Due.is("19 may " + m + " " + k, x.may(m, k), may[m][k]);
            }
        }
        for (int wrong : new int[] {3, -1, 98, 99}) {
            Due.is("19 BAD", x.may(wrong, 0), BAD);
            Due.is("19 BAD", x.may(0, wrong), BAD);
            Due.is("21 BAD", x.odds(wrong, 0, 0), BAD);
            Due.is("21 BAD", x.odds(0, wrong, 0), BAD);
            Due.is("22 BAD", x.named(wrong == -1 ? -2 : wrong), BAD);
        }
        Due.is("19 there, too", Due.laid(ROLLS + "a0,1,9;").may(0, 1), 1);
        // Two courses show it: the name must have been there long enough in each.
        String two = "g1,99;c0,0,1;c0,5,6;t0,0,24;t1,0,12;n0,5;n0,4;n0,6;n1,6;";
        int[] due = {1, 0, 1, 0};
        for (int m = 0; m < 4; m++) {
            Due.is("19 in each course " + m, Due.laid(two).may(m, 0), due[m]);
        }
        Due.is("20 ways", x.partings(), 2);
        oddsAre(x, 0, 0, 1, 2);
        oddsAre(x, 1, 0, 0, 1);
        oddsAre(x, 2, 0, 1, 2);
        oddsAre(x, 0, 1, 0, 1);
        oddsAre(x, 1, 1, 1, 1);
        oddsAre(x, 1, 2, NO, NO);
        Due.is("21 BAD", x.odds(0, 0, 2), BAD);
        Due.is("21 BAD", x.odds(0, 0, -1), BAD);
        Due.is("21 BAD ahead of NO", x.odds(0, 2, 2), BAD);
        Due.is("22 how many", x.named(-1), 1);
        Due.is("22 NONE", x.named(0), NONE);
        Due.is("22 the name", x.named(1), 1);
        Due.is("22 shows nowhere", x.named(2), NONE);
        Due.is("21 asked first", Due.laid(ROLLS).odds(0, 0, 1), 2);
        Due.is("22 asked first", Due.laid(ROLLS).named(1), 1);
        MasonMarks y = Due.laid(ROLLS + "t0,99,1;c1,0,0;t1,99,1;");
        Due.is("22 ahead of a stone that is read", y.named(-1), 1);
        Due.is("9 read", y.read(1, 2), 0);
        // Sign 2 shows in week 0 now: of names 0 and 1 only 0 is left for it, and 2 for sign 0.
        Due.is("22 behind it", y.named(-1), 3);
        Due.is("22 behind it", y.named(0), 2);
        Due.is("9 read", y.read(0, 2), 0);
        Due.is("21 behind it", y.odds(2, 0, 0), 1);
    }

    private static void oddsAre(MasonMarks x, int m, int k, int above, int below) {
        Due.is("21 above " + m + " " + k, x.odds(m, k, 0), above);
        Due.is("21 below " + m + " " + k, x.odds(m, k, 1), below);
    }

    private static void manyNames() {
        String ten = times(11, "g1,99;") + "c0,0,0;" + times(10, "n0,0;");
        for (int k = 0; k < 10; k++) {
            ten += "t0," + k + ",1;";
        }
        MasonMarks x = Due.laid(ten);
        Due.is("20 10!", x.partings(), 3628800);
        oddsAre(x, 9, 3, 1, 10);
        Due.is("22 none", x.named(-1), 0);
        MasonMarks y = Due.laid(ten + "t0,10,1;");
        Due.is("20 more signs than names", y.partings(), 0);
        oddsAre(y, 0, 0, NO, NO);
        Due.is("22 NO", y.named(-1), NO);
        Due.is("22 NO", y.named(0), NO);
        Due.is("22 BAD ahead of NO", y.named(11), BAD);
        Due.is("22 BAD ahead of NO", y.named(-2), BAD);
        Due.is("21 BAD ahead of NO", y.odds(10, 0, 0), BAD);
        Due.is("21 BAD ahead of NO", y.odds(0, 0, 2), BAD);
        Due.is("20 no names", Due.laid("g1,99;c0,0,0;t0,0,1;").partings(), 0);
        Due.is("20 no signs that show", Due.laid("g1,99;c0,0,0;t0,98,1;n0,0;").partings(), 1);
        // Three names for two signs: 6 ways; each name has each sign in 2 of them.
        MasonMarks z = Due.laid("g1,99;g1,99;c0,0,0;t0,0,1;t0,1,1;n0,0;n0,0;n0,0;");
        Due.is("20 6", z.partings(), 6);
        oddsAre(z, 2, 1, 1, 3);
        // Name 0 alone may cut sign 1, so sign 0 is name 1's, although 0 may have cut it.
        MasonMarks forced = Due.laid("g1,99;g1,99;c0,0,0;c0,1,1;t0,0,1;t1,1,1;n0,1;n0,0;");
        Due.is("19 may", forced.may(0, 0), 1);
        Due.is("20 1", forced.partings(), 1);
        Due.is("22 both", forced.named(-1), 2);
        Due.is("22 by the other", forced.named(0), 1);
        Due.is("22 alone", forced.named(1), 0);
    }

    private static void grownOf(String text, int due) {
        Due.is("23 grown " + text, Due.laid("g1,99;g2,0;c0,5,9;c0,5,6;c1,4,4;c1,6,9;" + text).grown(1), due);
    }

    private static void grownOnes() {
        grownOf("t0,0,1;t0,1,1;t2,1,1;", 1);
        grownOf("t0,0,1;t1,1,1;", 2);
        grownOf("t0,0,1;t3,1,1;", 2);
        grownOf("t0,0,1;t2,1,1;t3,1,1;", 3);
        grownOf("t0,1,1;t2,0,1;t3,0,1;", 2);
        grownOf("t3,0,1;t0,1,1;", 3);
        grownOf("t0,1,1;", NO);
        grownOf("t0,0,1;", NO);
        grownOf("", NO);
        MasonMarks x = Due.laid("g1,99;g2,0;c0,0,0;t0,0,1;t0,1,1;");
        Due.is("23 from none", x.grown(0), NO);
        Due.is("23 BAD", x.grown(2), BAD);
        Due.is("23 BAD", x.grown(-1), BAD);
        Due.is("23 BAD", x.grown(99), BAD);
    }

    private static void usedAgain() {
        String row = "g1,99;g1,99;g1,99;c0,0,0;c1,0,0;c2,0,0;c3,0,0;c4,0,0;c5,0,0;b1,0;b2,1;b3,2;b4,3;b5,4;";
        Due.is("24 none", Due.laid(row).again(), 0);
        Due.is("24 behind a pair", Due.laid(row + "t0,0,1;t1,0,1;t3,0,5;").again(), 5);
        Due.is("24 beside the pair", Due.laid(row + "t0,0,1;t1,0,1;t2,0,5;").again(), 0);
        Due.is("24 ahead of a pair", Due.laid(row + "t0,1,7;t2,1,1;t3,1,1;").again(), 7);
        Due.is("24 no pair", Due.laid(row + "t0,1,7;t2,1,1;t4,1,1;").again(), 0);
        Due.is("24 two pairs", Due.laid(row + "t0,1,7;t1,1,1;t3,1,1;t4,1,1;").again(), 0);
        Due.is("24 of all signs", Due.laid(row + "t0,0,1;t1,0,1;t3,0,5;t5,0,4;t2,2,3;t4,2,1;t5,2,1;").again(), 12);
        Due.is("24 98 and 99 are no signs", Due.laid(row + "t0,98,1;t1,98,1;t3,98,5;t0,99,1;t1,99,1;t5,99,9;").again(), 0);
        Due.is("24 NONE", Due.laid(ROUND).again(), NONE);
        Due.is("24 no parts", new MasonMarks().again(), 0);
    }

    private static void buildings() {
        MasonMarks x = Due.laid(THREE + "b0,1;b1,0;");
        Due.is("25 gaps", x.found(7, 6, 719, 12, 60, 0), 0);
        Due.is("25 orders", x.found(7, 6, 719, 12, 60, 1), 240);
        Due.is("25 found", x.found(7, 6, 719, 12, 60, 2), 1);
        Due.is("25 not found", x.found(3996, 6, 0, 7, 90, 2), 0);
        Due.is("25 nothing shows", x.found(9999, 6, 0, 12, 0, 1), 720);
        Due.is("25 n 2", x.found(0, 2, 1, 1, 100, 1), 2);
        int[][] wrong = {{-1, 2, 0, 1, 0, 0}, {10000, 2, 0, 1, 0, 0}, {0, 1, 0, 1, 0, 0}, {0, 7, 0, 1, 0, 0},
            {0, 2, 2, 1, 0, 0}, {0, 2, -1, 1, 0, 0}, {0, 6, 720, 1, 0, 0}, {0, 5, 120, 1, 0, 0}, {0, 3, 6, 1, 0, 0},
            {0, 4, 24, 1, 0, 0}, {0, 2, 0, 0, 0, 0}, {0, 2, 0, 13, 0, 0}, {0, 2, 0, 1, -1, 0}, {0, 2, 0, 1, 101, 0},
            {0, 2, 0, 1, 0, 3}, {0, 2, 0, 1, 0, -1}, {0, Integer.MAX_VALUE, 0, 1, 0, 0}, {0, Integer.MIN_VALUE, 0, 1, 0, 0}};
        for (int[] w : wrong) {
            Due.is("25 BAD", x.found(w[0], w[1], w[2], w[3], w[4], w[5]), BAD);
        }
        Due.is("25 the wall is another thing", x.best(-1), NONE);
        Due.is("25 the wall is another thing", x.sign(0, 3), 5);
    }

    private static void keeping() {
        MasonMarks x = Due.laid("g1,99;c0,0,0;t0,99,5;n0,0;");
        Due.is("27 NO", x.back(), NO);
        Due.is("26 one", x.keep(), 1);
        x.read(0, 0);
        Due.is("26 two", x.keep(), 2);
        x.read(0, 98);
        Due.is("26 FULL", x.keep(), FULL);
        Due.is("28 kept", x.count(5), 2);
        Due.is("26 nothing changed", x.stones(0, 99), 3);
        Due.is("27 back", x.back(), 1);
        Due.is("27 as kept last", x.stones(0, 99), 4);
        Due.is("27 as kept last", x.stones(0, 98), 0);
        x.read(0, 0);
        Due.is("26 two", x.keep(), 2);
        Due.is("27 back", x.back(), 1);
        Due.is("27 as kept last", x.stones(0, 0), 2);
        Due.is("27 back", x.back(), 0);
        Due.is("27 as kept first", x.stones(0, 99), 5);
        Due.is("27 as kept first", x.stones(0, 0), 0);
        Due.is("27 NO", x.back(), NO);
        Due.is("27 nothing changed", x.stones(0, 99), 5);
        x.keep();
        x.wipe();
        Due.is("26 a wipe leaves what is kept", x.count(5), 1);
    }

    private static void counting() {
        MasonMarks x = Due.laid("g1,99;g1,99;c5,0,0;c5,1,1;c2,0,0;n0,0;n1,1;n2,2;n3,3;t0,0,9;t1,98,8;t2,99,7;");
        x.keep();
        Due.write(x, "x");
        int[] due = {2, 3, 2, 4, 77, 1, 24};
        for (int what = 0; what < 7; what++) {
            Due.is("28 count " + what, x.count(what), due[what]);
        }
        Due.is("28 BAD", x.count(7), BAD);
        Due.is("28 BAD", x.count(-1), BAD);
    }

    public static void main(String[] args) {
        newObject();
        writing();
        wiping();
        faults();
        laying();
        signs();
        stonesAndParts();
        reading();
        alikeAndChance();
        bests();
        sureOnes();
        seams();
        nextOnes();
        menAndWeeks();
        names();
        manyNames();
        grownOnes();
        usedAgain();
        buildings();
        keeping();
        counting();
        Due.end();
    }
}
