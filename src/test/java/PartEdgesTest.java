/** Edges of what PARTS tell (promises 10 to 16) and of buildings (25): a test for each that the document names. */
public final class PartEdgesTest {
    private static final int BAD = MasonMarks.BAD, NONE = MasonMarks.NONE;
    private static final int LEAST = Integer.MIN_VALUE, MOST = Integer.MAX_VALUE;
    private static final int[] NO_PARTS = {LEAST, -32, -4, -3, -2, -1, 6, 7, 31, 32, 33, 37, 64, 98, 99, MOST};

    private static final String SIX = "c0,0,0;c1,0,0;c2,0,0;c3,0,0;c4,0,0;c5,0,0;";
    /** Only the row 0 1 2 3 4 5 is an ORDER. */
    private static final String ROW = SIX + "b1,0;b2,1;b3,2;b4,3;b5,4;";
    private static final String ROUND = "g1,99;c0,0,0;c1,0,0;c2,0,0;t0,99,5;t1,0,5;b0,1;b1,2;b2,0;";

    private PartEdgesTest() {
    }

    /** Items by which one stone of each of these COURSES shows a SIGN. */
    private static String show(int sign, int... courses) {
        StringBuilder items = new StringBuilder();
        for (int c : courses) {
            items.append('t').append(c).append(',').append(sign).append(",1;");
        }
        return items.toString();
    }

    private static String signs(int n) {
        return "g1,99;".repeat(n);
    }

    /** A wall of two PARTS that have SIGNS from..to of some told ones. */
    private static MasonMarks pair(String told, int oneFrom, int oneTo, int otherFrom, int otherTo) {
        StringBuilder text = new StringBuilder(told).append("c0,0,0;c1,0,0;");
        for (int k = oneFrom; k <= oneTo; k++) {
            text.append(show(k, 0));
        }
        for (int k = otherFrom; k <= otherTo; k++) {
            text.append(show(k, 1));
        }
        return Due.laid(text.toString());
    }

    // ---- promises 10, 11 and 13: PARTS that are none

    private static void twoParts() {
        MasonMarks x = Due.laid("g1,99;c0,0,0;c5,0,0;b1,2;" + show(0, 0, 1));
        for (int p : NO_PARTS) {
            noSuchPart(x, p);
        }
        for (int p = 1; p <= 4; p++) {
            noSuchPart(x, p);
        }
        for (int p : new int[] {0, 5}) {
            Due.is("10 BAD: one PART twice", x.alike(p, p), BAD);
            Due.is("11 BAD: one PART twice", x.chance(p, p, 0), BAD);
            Due.is("13 BAD: one PART twice", x.sure(p, p), BAD);
        }
        Due.is("10 the two that there are", x.alike(5, 0), 1000);
        Due.is("13 the two that there are", x.sure(5, 0), 0);
        MasonMarks one = Due.laid("c3,0,0;");
        Due.is("10 BAD: one PART alone", one.alike(3, 3), BAD);
        Due.is("10 BAD: one PART alone", one.alike(3, 0), BAD);
        Due.is("13 BAD: one PART alone", one.sure(3, 0), BAD);
    }

    private static void noSuchPart(MasonMarks x, int p) {
        Due.is("10 BAD: PART " + p, x.alike(p, 0), BAD);
        Due.is("10 BAD: PART " + p, x.alike(5, p), BAD);
        Due.is("10 BAD: PART " + p, x.alike(p, p), BAD);
        Due.is("11 BAD: PART " + p, x.chance(p, 0, 2), BAD);
        Due.is("11 BAD: PART " + p, x.chance(5, p, 2), BAD);
        Due.is("13 BAD: PART " + p, x.sure(p, 0), BAD);
        Due.is("13 BAD: PART " + p, x.sure(5, p), BAD);
    }

    // ---- promise 10

    private static void alikeEdges() {
        Due.is("10 0, if there are no SIGNS", pair("", 0, -1, 0, -1).alike(0, 1), 0);
        Due.is("10 0, if none is IN them", pair(signs(3), 0, -1, 0, -1).alike(0, 1), 0);
        Due.is("10 none and some", pair(signs(3), 0, -1, 0, 2).alike(0, 1), 0);
        Due.is("10 some and none", pair(signs(3), 0, 2, 0, -1).alike(0, 1), 0);
        Due.is("10 no SIGN IN both", pair(signs(3), 0, 1, 2, 2).alike(0, 1), 0);
        Due.is("10 all IN both", pair(signs(3), 0, 2, 0, 2).alike(0, 1), 1000);
        Due.is("10 2 by 3, cut", pair(signs(3), 0, 1, 0, 2).alike(0, 1), 666);
        Due.is("10 1 by 16, cut", pair(signs(16), 0, 15, 15, 15).alike(0, 1), 62);
        Due.is("10 strokes: 9 by 10", pair("g9,99;g1,99;", 0, 0, 0, 1).alike(0, 1), 900);
        Due.is("10 135 by 136, cut", pair("g9,99;".repeat(15) + "g1,99;", 0, 14, 0, 15).alike(0, 1), 992);
        Due.is("10 144 by 144", pair("g9,99;".repeat(16), 0, 15, 0, 15).alike(0, 1), 1000);
        MasonMarks x = Due.laid(signs(2) + "c0,0,0;c1,0,0;t0,0,99;t1,0,1;t1,1,1;t0,98,5;t1,98,5;t0,99,5;t1,99,5;");
        Due.is("10 SIGNS, not stones; 98 and 99 are none", x.alike(0, 1), 500);
    }

    // ---- promise 11

    private static void chanceIs(String why, MasonMarks x, long above, long below, long shared) {
        for (int turn = 0; turn < 2; turn++) {
            Due.is("11 above: " + why, x.chance(turn, 1 - turn, 0), above);
            Due.is("11 below: " + why, x.chance(turn, 1 - turn, 1), below);
            Due.is("11 c: " + why, x.chance(turn, 1 - turn, 2), shared);
        }
    }

    private static void chanceEdges() {
        chanceIs("there are no SIGNS", pair("", 0, -1, 0, -1), 1, 1, 0);
        chanceIs("none is IN them", pair(signs(16), 0, -1, 0, -1), 1, 1, 0);
        chanceIs("b is 0", pair(signs(3), 0, 2, 0, -1), 1, 1, 0);
        chanceIs("c is 0", pair(signs(4), 0, 1, 2, 3), 1, 1, 0);
        chanceIs("a and b are all", pair(signs(3), 0, 2, 0, 2), 1, 1, 3);
        chanceIs("a is all of 16", pair(signs(16), 0, 15, 0, 7), 1, 1, 8);
        chanceIs("a and b must share one of 3", pair(signs(3), 0, 1, 1, 2), 1, 1, 1);
        chanceIs("one of 16 is the one", pair(signs(16), 3, 3, 3, 3), 1, 16, 1);
        chanceIs("C(3,1) of C(5,3)", pair(signs(5), 0, 1, 0, 2), 3, 10, 2);
        chanceIs("8 of 16 just so", pair(signs(16), 0, 7, 0, 7), 1, 12870, 8);
        chanceIs("7 or more of 8: 65 of 12870, in lowest terms", pair(signs(16), 0, 7, 1, 8), 1, 198, 7);
        chanceIs("1 or more of 8: all but one of 12870", pair(signs(16), 0, 7, 7, 14), 12869, 12870, 1);
        for (int part : new int[] {LEAST, -1, 3, 4, 32, MOST}) {
            Due.is("11 BAD: part " + part, pair(signs(2), 0, 0, 0, 1).chance(0, 1, part), BAD);
        }
    }

    // ---- promise 12

    private static void bestIs(String why, String text, int gaps, int orders, int... row) {
        MasonMarks x = Due.laid(text);
        Due.is("12 GAPS: " + why, x.best(-1), gaps);
        Due.is("12 ORDERS: " + why, x.best(-2), orders);
        for (int i = 0; i < row.length; i++) {
            Due.is("12 place " + i + ": " + why, x.best(i), row[i]);
        }
        for (int beyond : new int[] {row.length, row.length + 1, 6, 7, 32, 64, MOST}) {
            Due.is("12 NONE beyond: " + beyond, x.best(beyond), NONE);
        }
        for (int wrong : new int[] {-3, -4, -32, LEAST, LEAST + 1}) {
            Due.is("12 BAD: " + wrong, x.best(wrong), BAD);
        }
    }

    private static void bestOfFew() {
        bestIs("no PARTS", "", 0, 1);
        bestIs("no PARTS, but b goes round", "b0,1;b1,0;", 0, 1);
        bestIs("one PART", "c5,0,0;", 0, 1, 5);
        bestIs("one PART, all SIGNS", signs(2) + "c5,0,0;" + show(0, 0) + show(1, 0), 0, 1, 5);
        bestIs("two PARTS", "c5,0,0;c1,0,0;", 0, 2, 1, 5);
        bestIs("two PARTS, b", "c5,0,0;c1,0,0;b1,5;", 0, 1, 5, 1);
        bestIs("six PARTS", SIX, 0, 720, 0, 1, 2, 3, 4, 5);
        bestIs("six PARTS in a row", ROW, 0, 1, 0, 1, 2, 3, 4, 5);
        bestIs("six PARTS, all SIGNS IN all", signs(1) + SIX + show(0, 0, 1, 2, 3, 4, 5), 0, 720, 0, 1, 2, 3, 4, 5);
    }

    private static void bestByBegun() {
        bestIs("PARTS that are not there bind nothing", "c0,0,0;c2,0,0;b0,1;b1,2;b0,5;b4,0;", 0, 2, 0, 2);
        bestIs("told twice", "c0,0,0;c2,0,0;b0,2;b0,2;", 0, 1, 2, 0);
        bestIs("it would go round by a PART that is not there", "c0,0,0;c2,0,0;b0,1;b1,2;b2,0;", 0, 1, 0, 2);
        String[] rounds = {"c0,0,0;c1,0,0;b0,1;b1,0;", "c0,0,0;c1,0,0;c2,0,0;b0,1;b1,2;b2,0;", ROW + "b0,5;",
            SIX + "b4,5;b5,4;", ROW + "b0,1;"};
        for (String text : rounds) {
            MasonMarks x = Due.laid(text);
            for (int i = -2; i < 8; i++) {
                Due.is("12 NONE: b goes round, " + text, x.best(i), NONE);
            }
            Due.is("12 BAD ahead of NONE", x.best(-3), BAD);
            Due.is("12 BAD ahead of NONE", x.best(LEAST), BAD);
        }
    }

    private static void bestByGaps() {
        bestIs("a SIGN IN one PART only", "g9,99;" + ROW + show(0, 3), 0, 1, 0, 1, 2, 3, 4, 5);
        bestIs("a SIGN IN two beside each other", "g9,99;" + ROW + show(0, 3, 4), 0, 1, 0, 1, 2, 3, 4, 5);
        bestIs("one PART between", "g9,99;" + ROW + show(0, 2, 4), 9, 1, 0, 1, 2, 3, 4, 5);
        bestIs("both ends", "g9,99;" + ROW + show(0, 0, 5), 36, 1, 0, 1, 2, 3, 4, 5);
        bestIs("it comes back twice", "g9,99;" + ROW + show(0, 0, 2, 5), 27, 1, 0, 1, 2, 3, 4, 5);
        bestIs("behind the last there is none", "g9,99;" + ROW + show(0, 1, 3), 9, 1, 0, 1, 2, 3, 4, 5);
        bestIs("two SIGNS", "g9,99;g1,99;" + ROW + show(0, 0, 2) + show(1, 3, 5), 10, 1, 0, 1, 2, 3, 4, 5);
        StringBuilder most = new StringBuilder("g9,99;".repeat(16)).append(ROW);
        for (int k = 0; k < 16; k++) {
            most.append(show(k, 0, 5));
        }
        bestIs("16 SIGNS of 9 strokes over 4 PARTS", most.toString(), 576, 1, 0, 1, 2, 3, 4, 5);
        bestIs("98 and 99 are no SIGNS", ROW + "t0,98,1;t5,98,1;t0,99,1;t5,99,1;", 0, 1, 0, 1, 2, 3, 4, 5);
    }

    private static void bestIsTheFirstByNumbers() {
        String chain = signs(2) + "c0,0,0;c1,0,0;c2,0,0;";
        bestIs("1 0 2 ahead of 2 0 1", chain + show(0, 0, 1) + show(1, 0, 2), 0, 2, 1, 0, 2);
        bestIs("0 1 2 ahead of 2 1 0", chain + show(0, 0, 1) + show(1, 1, 2), 0, 2, 0, 1, 2);
        bestIs("0 2 1 ahead of 1 2 0", chain + show(0, 0, 2) + show(1, 1, 2), 0, 2, 0, 2, 1);
        bestIs("numbers of PARTS, not of COURSES", signs(1) + "c5,0,0;c3,0,0;c4,0,0;" + show(0, 0, 1), 0, 4, 3, 5, 4);
    }

    // ---- promise 13

    private static void sureEdges() {
        MasonMarks free = Due.laid("c0,0,0;c1,0,0;");
        Due.is("13 0: both rows", free.sure(0, 1), 0);
        Due.is("13 0: both rows", free.sure(1, 0), 0);
        MasonMarks row = Due.laid(ROW);
        for (int p = 0; p < 6; p++) {
            for (int q = 0; q < 6; q++) {
                Due.is("13 in a row " + p + " " + q, row.sure(p, q), p == q ? BAD : p < q ? 1 : 2);
            }
        }
        MasonMarks six = Due.laid(SIX + "b0,5;");
        Due.is("13 by b", six.sure(5, 0), 1);
        Due.is("13 by b", six.sure(0, 5), 2);
        Due.is("13 not by b", six.sure(4, 5), 0);
        // Of 1 0 2 and 2 0 1 neither is sure; with 2 behind 0 only 1 0 2 is left.
        String chain = signs(2) + "c0,0,0;c1,0,0;c2,0,0;" + show(0, 0, 1) + show(1, 0, 2);
        Due.is("13 0: the row may be turned", Due.laid(chain).sure(1, 2), 0);
        Due.is("13 1: not told by b", Due.laid(chain + "b2,0;").sure(1, 0), 1);
        Due.is("13 2: not told by b", Due.laid(chain + "b2,0;").sure(2, 1), 2);
        MasonMarks round = Due.laid(ROUND);
        Due.is("13 NONE: no ORDER", round.sure(0, 2), NONE);
        for (int p : NO_PARTS) {
            Due.is("13 BAD ahead of NONE", round.sure(p, 0), BAD);
            Due.is("13 BAD ahead of NONE", round.sure(0, p), BAD);
        }
        Due.is("13 BAD ahead of NONE", round.sure(1, 1), BAD);
    }

    // ---- promises 14 and 15

    private static void seamPlaces() {
        MasonMarks x = Due.laid("g1,99;" + ROW + show(0, 0, 1, 2, 3, 4, 5));
        for (int i = 0; i < 5; i++) {
            Due.is("14 a SIGN IN all goes over", x.seam(i, 0), 1);
            Due.is("14 a SIGN IN all ends nowhere", x.seam(i, 1), 0);
            Due.is("14 a SIGN IN all begins nowhere", x.seam(i, 2), 0);
        }
        for (int i : new int[] {LEAST, -2, -1, 5, 6, 7, 32, MOST}) {
            Due.is("14 BAD: place " + i, x.seam(i, 0), BAD);
        }
        for (int what : new int[] {LEAST, -1, 3, 4, 32, MOST}) {
            Due.is("14 BAD: what " + what, x.seam(0, what), BAD);
        }
        MasonMarks two = Due.laid("c0,0,0;c1,0,0;");
        Due.is("14 two PARTS have one", two.seam(0, 0), 0);
        Due.is("14 BAD: a second one", two.seam(1, 0), BAD);
        Due.is("14 BAD: one PART has none", Due.laid("c0,0,0;").seam(0, 0), BAD);
        MasonMarks round = Due.laid(ROUND);
        for (int what = 0; what < 3; what++) {
            Due.is("14 NONE: no ORDER", round.seam(0, what), NONE);
            Due.is("14 NONE: no ORDER", round.seam(1, what), NONE);
        }
        Due.is("14 BAD ahead of NONE", round.seam(2, 0), BAD);
        Due.is("14 BAD ahead of NONE", round.seam(-1, 0), BAD);
        Due.is("14 BAD ahead of NONE", round.seam(0, 3), BAD);
    }

    private static void seamsAre(String why, MasonMarks x, int what, int... due) {
        for (int i = 0; i < due.length; i++) {
            Due.is("14 " + why + " at " + i, x.seam(i, what), due[i]);
        }
    }

    private static void seamSigns() {
        MasonMarks first = Due.laid("g1,99;" + ROW + show(0, 0));
        seamsAre("IN the first one only: over", first, 0, 0, 0, 0, 0, 0);
        seamsAre("IN the first one only: ends", first, 1, 1, 0, 0, 0, 0);
        seamsAre("IN the first one only: begins", first, 2, 0, 0, 0, 0, 0);
        MasonMarks last = Due.laid("g1,99;" + ROW + show(0, 5));
        seamsAre("IN the last one only: over", last, 0, 0, 0, 0, 0, 0);
        seamsAre("IN the last one only: ends", last, 1, 0, 0, 0, 0, 0);
        seamsAre("IN the last one only: begins", last, 2, 0, 0, 0, 0, 1);
        MasonMarks middle = Due.laid("g1,99;" + ROW + show(0, 2));
        seamsAre("IN one only: ends", middle, 1, 0, 0, 1, 0, 0);
        seamsAre("IN one only: begins", middle, 2, 0, 1, 0, 0, 0);
        MasonMarks back = Due.laid("g1,99;" + ROW + show(0, 1, 4));
        seamsAre("it leaves off and comes back: over", back, 0, 0, 1, 1, 1, 0);
        seamsAre("it leaves off and comes back: ends", back, 1, 0, 0, 0, 0, 1);
        seamsAre("it leaves off and comes back: begins", back, 2, 1, 0, 0, 0, 0);
        StringBuilder all = new StringBuilder(signs(16)).append("c0,0,0;c1,0,0;");
        for (int k = 0; k < 16; k++) {
            all.append(show(k, 0, 1));
        }
        Due.is("14 16 go over", Due.laid(all.toString()).seam(0, 0), 16);
    }

    private static void pauseEdges() {
        Due.is("15 NONE: no PART", new MasonMarks().pause(), NONE);
        Due.is("15 NONE: one PART", Due.laid("g1,99;c0,0,0;" + show(0, 0)).pause(), NONE);
        Due.is("15 NONE: no ORDER", Due.laid(ROUND).pause(), NONE);
        Due.is("15 two PARTS", Due.laid("g9,99;c0,0,0;c1,0,0;" + show(0, 0, 1)).pause(), 0);
        Due.is("15 the first of like ones", Due.laid(ROW).pause(), 0);
        Due.is("15 the first of like ones", Due.laid("g1,99;" + ROW + show(0, 0, 1, 2, 3, 4, 5)).pause(), 0);
        Due.is("15 the first of like ones behind", Due.laid("g1,99;" + ROW + show(0, 0, 1, 2)).pause(), 2);
        Due.is("15 the last one", Due.laid("g1,99;" + ROW + show(0, 0, 4)).pause(), 4);
        String weighed = "g1,99;g1,99;g3,99;c0,0,0;c1,0,0;c2,0,0;b1,0;b2,1;";
        Due.is("15 strokes, not SIGNS", Due.laid(weighed + show(0, 1, 2) + show(1, 1, 2) + show(2, 0, 1)).pause(), 1);
        Due.is("15 strokes, not SIGNS", Due.laid(weighed + show(0, 0, 1) + show(1, 0, 1) + show(2, 1, 2)).pause(), 0);
    }

    // ---- promise 16

    private static void nextEdges() {
        Due.is("16 NONE: all can be seen", Due.laid("g1,99;c0,0,0;c1,0,0;" + show(0, 0)).next(), NONE);
        Due.is("16 NONE: no ORDER", Due.laid(ROUND).next(), NONE);
        Due.is("16 one PART", Due.laid("c4,0,0;t0,99,1;").next(), 4);
        Due.is("16 no SIGNS: as many as now, the lowest", Due.laid(SIX + "t5,99,1;t3,99,99;").next(), 3);
        Due.is("16 by the second COURSE of a PART", Due.laid("c1,0,0;c1,0,0;c2,0,0;t1,99,1;t2,99,1;").next(), 1);
        // Sign 0 is IN 1 and 2, 4 ORDERS now; of 0 it makes 6, and of 1 there is none it is not IN: 4.
        String all = "g1,99;c0,0,0;c1,0,0;c2,0,0;" + show(0, 1, 2);
        Due.is("16 now", Due.laid(all).best(-2), 4);
        Due.is("16 all SIGNS are IN it: as many as there are now", Due.laid(all + "t0,99,1;t1,99,1;").next(), 1);
        Due.is("16 the one alone, though there are more then", Due.laid(all + "t0,99,1;").next(), 0);
        // 0 would make it 6 by sign 0, 1 would make it 2 by sign 1.
        Due.is("16 fewest", Due.laid("g1,99;" + all + show(1, 0) + "t0,99,1;t1,99,1;").next(), 1);
        // Sign 0 is IN 0: 6 ORDERS; if 1 shows it there are 4. Another SIGN that shows nowhere leaves 6 for both.
        String few = "c0,0,0;c1,0,0;c2,0,0;t0,0,1;t0,99,1;t1,99,1;";
        Due.is("16 one SIGN", Due.laid(signs(1) + few).next(), 1);
        Due.is("16 whichever SIGN, also one that shows nowhere", Due.laid(signs(2) + few).next(), 0);
        MasonMarks x = Due.laid(all + "t0,99,1;t1,99,1;");
        x.read(1, 98);
        Due.is("16 behind a read", x.next(), 0);
        x.read(0, 98);
        Due.is("16 NONE behind the last read", x.next(), NONE);
    }

    // ---- promise 25

    private static void foundNumbers() {
        MasonMarks x = new MasonMarks();
        int[] rows = {2, 6, 24, 120, 720};
        for (int n = 2; n <= 6; n++) {
            int last = rows[n - 2] - 1;
            Due.is("25 o 0, h 0: all rows", x.found(0, n, 0, 1, 0, 1), rows[n - 2]);
            Due.is("25 the last o", x.found(9999, n, last, 12, 0, 1), rows[n - 2]);
            Due.is("25 h 0: no GAPS", x.found(9999, n, last, 12, 0, 0), 0);
            Due.is("25 h 0: it is found", x.found(9999, n, last, 12, 0, 2), 1);
            Due.is("25 BAD: o n!", x.found(0, n, last + 1, 1, 0, 0), BAD);
            Due.is("25 BAD: o -1", x.found(0, n, -1, 1, 0, 0), BAD);
            Due.is("25 BAD: o", x.found(0, n, MOST, 1, 0, 0), BAD);
            Due.is("25 BAD: o", x.found(0, n, LEAST, 1, 0, 0), BAD);
        }
        int[] fine = {0, 2, 0, 1, 0, 0};
        int[][] beyond = {{LEAST, -1, 10000, MOST}, {LEAST, -1, 0, 1, 7, 8, 32, MOST}, {-1, 2}, {LEAST, -1, 0, 13, MOST},
            {LEAST, -1, 101, MOST}, {LEAST, -1, 3, MOST}};
        for (int at = 0; at < 6; at++) {
            for (int wrong : beyond[at]) {
                int[] n = fine.clone();
                n[at] = wrong;
                Due.is("25 BAD: number " + at + " is " + wrong, x.found(n[0], n[1], n[2], n[3], n[4], n[5]), BAD);
            }
        }
    }

    private static void foundByHand() {
        MasonMarks x = Due.laid("g1,99;c0,0,0;c1,0,0;b0,1;b1,0;t0,99,1;");
        // z 0, man 0: draws 1, 8110, 7111: he comes at place 1, stays for 2, has 2 strokes; he shows his sign
        // at place 1 if 74 is below h, at place 2 if 42 is.
        Due.is("25 as far as there are", x.found(0, 2, 0, 1, 100, 1), 2);
        for (int o : new int[] {0, 5}) {
            Due.is("25 75: both PARTS show it", x.found(0, 3, o, 1, 75, 1), 4);
            Due.is("25 74 is not below 74", x.found(0, 3, o, 1, 74, 1), 6);
        }
        Due.is("25 75: both PARTS show it", x.found(0, 6, 719, 1, 75, 1), 240);
        Due.is("25 74 is not below 74", x.found(0, 6, 719, 1, 74, 1), 720);
        Due.is("25 of one man in a row there are no GAPS", x.found(0, 6, 719, 1, 100, 0), 0);
        Due.is("25 so it is found", x.found(0, 6, 719, 1, 100, 2), 1);
        // z 40, man 0: he comes at place 0, stays for 3; 0, 87 and 8 must be below h.
        for (int o = 0; o < 6; o++) {
            Due.is("25 he leaves off and comes back: not found", x.found(40, 3, o, 1, 87, 2), 0);
            Due.is("25 BEST are the rows without GAPS", x.found(40, 3, o, 1, 87, 1), 4);
            Due.is("25 87 is below 88: all show it", x.found(40, 3, o, 1, 88, 2), 1);
        }
        Due.is("25 b of the wall does not bind", x.best(-1), NONE);
        Due.is("25 nothing of the wall changes", x.count(6), 1);
    }

    private static void foundIs(String why, int[] by, int gaps, int orders, int found) {
        MasonMarks x = new MasonMarks();
        for (int o = 0; o < 6; o++) {
            Due.is("25 GAPS: " + why, x.found(by[0], 3, o, by[1], by[2], 0), gaps);
            Due.is("25 ORDERS: " + why, x.found(by[0], 3, o, by[1], by[2], 1), orders);
            Due.is("25 found: " + why, x.found(by[0], 3, o, by[1], by[2], 2), found);
        }
    }

    /** Each two of three places share a SIGN, so one SIGN must leave off: by strokes, and by how many men came. */
    private static void foundByStrokes() {
        foundIs("2 strokes at 0 and 2, 4 at 0 and 1, 3 at 1 and 2", new int[] {4205, 3, 80}, 2, 2, 1);
        foundIs("4 strokes at 1 and 2, 2 at 0 and 1, 3 at 0 and 2", new int[] {9697, 3, 80}, 2, 2, 0);
        foundIs("5 strokes at 0 and 1, 1 at 1 and 2, 3 at 0 and 2", new int[] {465, 3, 70}, 1, 2, 0);
        foundIs("the first two of these men", new int[] {465, 2, 70}, 0, 2, 1);
        foundIs("the first of these men", new int[] {465, 1, 70}, 0, 4, 1);
        foundIs("man 0 at 2", new int[] {3, 1, 100}, 0, 6, 1);
        foundIs("man 0 at 2, man 1 at 0 and 1", new int[] {3, 2, 100}, 0, 4, 1);
    }

    public static void main(String[] args) {
        twoParts();
        alikeEdges();
        chanceEdges();
        bestOfFew();
        bestByBegun();
        bestByGaps();
        bestIsTheFirstByNumbers();
        sureEdges();
        seamPlaces();
        seamSigns();
        pauseEdges();
        nextEdges();
        foundNumbers();
        foundByHand();
        foundByStrokes();
        Due.end();
    }
}
