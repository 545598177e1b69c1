/** Edges of men, names and signs that grew (promises 17 to 24): a test for each that the document names. */
public final class MenEdgesTest {
    private static final int BAD = MasonMarks.BAD, NO = MasonMarks.NO, NONE = MasonMarks.NONE;
    private static final int LEAST = Integer.MIN_VALUE, MOST = Integer.MAX_VALUE;
    private static final int[] NEVER_TOLD = {LEAST, -32, -4, -3, -2, -1, 10, 16, 17, 31, 32, 33, 64, 97, 98, 99, 100, MOST};

    private MenEdgesTest() {
    }

    private static String signs(int n) {
        return "g1,99;".repeat(n);
    }

    /** Items by which one stone of COURSE 0 shows each of the first SIGNS. */
    private static String showFirst(int n) {
        StringBuilder items = new StringBuilder();
        for (int k = 0; k < n; k++) {
            items.append("t0,").append(k).append(",1;");
        }
        return items.toString();
    }

    // ---- promise 17

    private static void menAre(String why, String text, int least, int most, int pace) {
        MasonMarks x = Due.laid(text);
        Due.is("17 at least: " + why, x.men(0, 0), least);
        Due.is("17 at most: " + why, x.men(0, 1), most);
        Due.is("17 PACE: " + why, x.men(0, 2), pace);
    }

    private static void menEdges() {
        menAre("no stones", "c0,0,23;", 0, 0, 0);
        menAre("one stone", "c0,0,23;t0,98,1;", 1, 1, 1);
        menAre("just W a WEEK", "g1,99;c0,3,3;t0,0,12;", 1, 1, 12);
        menAre("one more", "g1,99;c0,3,3;t0,0,13;", 2, 2, 13);
        menAre("just W by 24 WEEKS", "g1,99;c0,0,23;t0,0,24;w1;", 1, 1, 1);
        menAre("one more", "g1,99;c0,0,23;t0,0,25;w1;", 2, 2, 2);
        menAre("the most a man can", "g1,99;c0,0,23;" + "t0,0,99;".repeat(24) + "w99;", 1, 1, 99);
        menAre("one more", "g1,99;c0,0,23;" + "t0,0,99;".repeat(24) + "t0,0,1;w99;", 2, 2, 100);
        menAre("more SIGNS than stones ask for", signs(16) + "c0,0,23;" + showFirst(16), 16, 16, 1);
        menAre("no fewer than at least", "g1,99;c0,0,0;t0,0,99;w1;", 99, 99, 99);
        menAre("no fewer than at least", "g1,99;c0,0,0;t0,0,98;t0,99,1;w1;", 99, 99, 99);
        menAre("SIGNS, none and not seen together", "g1,99;g1,99;c0,0,0;t0,0,5;t0,98,3;t0,99,4;w99;", 1, 8, 12);
        menAre("none alone", "c0,0,0;t0,98,7;w99;", 1, 7, 7);
        menAre("not seen alone", "c0,0,0;t0,99,7;w99;", 1, 7, 7);
        menAre("SIGNS of that COURSE only", signs(2) + "c0,0,0;c0,0,0;t0,0,1;t1,1,1;", 1, 1, 1);
        MasonMarks x = Due.laid("c0,0,0;".repeat(15) + "c0,0,0;t15,98,2;");
        Due.is("17 the last COURSE of 16", x.men(15, 1), 2);
        for (int c : NEVER_TOLD) {
            int due = c == 10 ? 0 : BAD;
            Due.is("17 COURSE " + c, x.men(c, 0), due);
        }
        for (int what : new int[] {LEAST, -1, 3, 4, 32, MOST}) {
            Due.is("17 BAD: what " + what, x.men(0, what), BAD);
        }
        Due.is("17 BAD: a second COURSE", Due.laid("c0,0,0;").men(1, 0), BAD);
    }

    // ---- promise 18

    private static void asksEdges() {
        int[][] due = {{1, 1}, {11, 1}, {12, 1}, {13, 2}, {24, 2}, {25, 3}, {99, 9}};
        for (int[] d : due) {
            Due.is("18 by 12, rounded up: " + d[0], Due.laid("g1,99;c0,0,0;t0,0," + d[0] + ";").asks(0, 0), d[1]);
        }
        MasonMarks x = Due.laid(signs(9) + "c0,0,0;c0,0,0;t0,0,99;t0,0,99;t1,0,99;t0,98,99;t0,99,99;w99;");
        Due.is("18 stones there", x.asks(0, 0), 2);
        Due.is("18 stones there", x.asks(0, 1), 1);
        Due.is("18 no stone there", x.asks(8, 0), 0);
        for (int wrong : NEVER_TOLD) {
            Due.is("18 BAD: SIGN " + wrong, x.asks(wrong, 0), BAD);
            Due.is("18 BAD: COURSE " + wrong, x.asks(0, wrong), BAD);
        }
        Due.is("18 BAD: SIGN 9 of 9", x.asks(9, 0), BAD);
        Due.is("18 BAD: COURSE 2 of 2", x.asks(0, 2), BAD);
        Due.is("18 the SIGN comes first", x.asks(8, 1), 0);
        Due.is("18 BAD: the other way about", x.asks(1, 8), BAD);
    }

    // ---- promise 19

    private static void mayIs(String why, String text, int due) {
        Due.is("19 " + why, Due.laid("g1,99;" + text).may(0, 0), due);
    }

    private static void mayEdges() {
        mayIs("shows nowhere", "n0,0;", 1);
        mayIs("shows nowhere, though there are COURSES", "c0,5,5;t0,98,9;t0,99,9;n0,0;", 1);
        mayIs("just as many WEEKS", "c0,4,9;t0,0,24;n8,23;", 1);
        mayIs("one too few", "c0,4,9;t0,0,24;n9,23;", 0);
        mayIs("one too few", "c0,4,9;t0,0,25;n8,23;", 0);
        mayIs("at the other end", "c0,4,9;t0,0,24;n0,5;", 1);
        mayIs("at the other end, one too few", "c0,4,9;t0,0,24;n0,4;", 0);
        mayIs("never there", "c0,4,9;t0,0,1;n0,3;a0,10,23;", 0);
        mayIs("there in one WEEK", "c0,4,9;t0,0,1;n0,3;a0,9,23;", 1);
        mayIs("WEEK 0", "c0,0,0;t0,0,12;n0,0;", 1);
        mayIs("WEEK 23", "c0,23,23;t0,0,12;n23,23;", 1);
        mayIs("all 24 WEEKS", "c0,0,23;t0,0,24;w1;n0,23;", 1);
        mayIs("23 of 24 WEEKS", "c0,0,23;t0,0,24;w1;n1,23;", 0);
        mayIs("it asks more WEEKS than there are", "c0,0,23;t0,0,25;w1;n0,23;", 0);
        mayIs("too: WEEKS are not counted twice", "c0,0,9;t0,0,24;n3,3;a0,3,3;", 0);
        mayIs("too: some more", "c0,0,9;t0,0,24;n3,3;a0,7,7;", 1);
        mayIs("too: ahead of the others", "c0,0,9;t0,0,36;n3,4;a0,2,3;", 1);
        mayIs("in each COURSE", "c0,0,1;c0,5,6;t0,0,1;t1,0,1;n1,5;", 1);
        mayIs("not in the second COURSE", "c0,0,1;c0,5,6;t0,0,1;t1,0,1;n1,4;", 0);
        mayIs("not in the first COURSE", "c0,0,1;c0,5,6;t0,0,1;t1,0,1;n2,5;", 0);
        mayIs("COURSES that do not show it ask nothing", "c0,0,1;c0,5,6;t1,0,1;t0,98,9;n5,5;", 1);
        MasonMarks x = Due.laid("n0,0;".repeat(10) + signs(10) + "c0,0,0;t0,9,1;");
        Due.is("19 the last NAME of 10", x.may(9, 9), 1);
        for (int wrong : NEVER_TOLD) {
            Due.is("19 BAD: NAME " + wrong, x.may(wrong, 0), BAD);
            Due.is("19 BAD: SIGN " + wrong, x.may(0, wrong), BAD);
        }
        Due.is("19 BAD: there is no NAME", Due.laid("g1,99;").may(0, 0), BAD);
        Due.is("19 BAD: there is no SIGN", Due.laid("n0,0;").may(0, 0), BAD);
    }

    // ---- promises 20 to 22

    private static void partingsAre(String why, String text, long ways) {
        MasonMarks x = Due.laid(text);
        Due.is("20 " + why, x.partings(), ways);
        Due.is("20 once more: " + why, x.partings(), ways);
        Due.is("22 NO: no PARTINGS: " + why, x.named(-1) == NO ? 1 : 0, ways == 0 ? 1 : 0);
    }

    private static void partingsEdges() {
        partingsAre("nothing at all", "", 1);
        partingsAre("NAMES, but no SIGN", "n0,0;n0,0;", 1);
        partingsAre("no SIGN that shows, no NAME", "g1,99;c0,0,0;t0,98,1;", 1);
        partingsAre("no SIGN that shows", "g1,99;c0,0,0;t0,99,1;n0,0;", 1);
        partingsAre("no NAME", "g1,99;c0,0,0;t0,0,1;", 0);
        partingsAre("no NAME that MAY", "g1,99;c0,0,0;t0,0,1;n1,1;", 0);
        partingsAre("one and one", "g1,99;c0,0,0;t0,0,1;n0,0;", 1);
        partingsAre("no NAME two", signs(2) + "c0,0,0;" + showFirst(2) + "n0,0;", 0);
        partingsAre("as many as ten", signs(2) + "c0,0,0;" + showFirst(2) + "n0,0;".repeat(10), 90);
        partingsAre("ten and ten", signs(10) + "c0,0,0;" + showFirst(10) + "n0,0;".repeat(10), 3628800);
        partingsAre("nine and ten", signs(16) + "c0,0,0;" + showFirst(9) + "n0,0;".repeat(10), 3628800);
        partingsAre("eleven and ten", signs(11) + "c0,0,0;" + showFirst(11) + "n0,0;".repeat(10), 0);
        partingsAre("sixteen and ten", signs(16) + "c0,0,0;" + showFirst(16) + "n0,0;".repeat(10), 0);
        partingsAre("two for one NAME, though there are two", signs(2) + "c0,0,0;" + showFirst(2) + "n0,0;n1,1;", 0);
    }

    private static void oddsAre(String why, MasonMarks x, int m, int k, long above, long below) {
        Due.is("21 above: " + why, x.odds(m, k, 0), above);
        Due.is("21 below: " + why, x.odds(m, k, 1), below);
    }

    private static void oddsEdges() {
        MasonMarks ten = Due.laid(signs(10) + "c0,0,0;" + showFirst(10) + "n0,0;".repeat(10));
        oddsAre("362880 of 3628800, in lowest terms", ten, 0, 0, 1, 10);
        oddsAre("the last ones", ten, 9, 9, 1, 10);
        MasonMarks nine = Due.laid(signs(16) + "c0,0,0;" + showFirst(9) + "n0,0;".repeat(10));
        oddsAre("of nine SIGNS", nine, 9, 8, 1, 10);
        oddsAre("NO: it shows nowhere", nine, 9, 9, NO, NO);
        oddsAre("NO: it shows nowhere", nine, 0, 15, NO, NO);
        MasonMarks one = Due.laid("g1,99;c0,0,0;t0,0,1;n0,0;n1,1;");
        oddsAre("in all ways", one, 0, 0, 1, 1);
        oddsAre("in no way: 0 by 1", one, 1, 0, 0, 1);
        MasonMarks none = Due.laid("g1,99;c0,0,0;t0,0,1;n1,1;g1,99;");
        oddsAre("NO: there are none", none, 0, 0, NO, NO);
        oddsAre("NO: there are none, and it shows nowhere", none, 0, 1, NO, NO);
        for (int wrong : NEVER_TOLD) {
            Due.is("21 BAD: NAME " + wrong, ten.odds(wrong, 0, 0), BAD);
            Due.is("21 BAD: SIGN " + wrong, ten.odds(0, wrong, 0), BAD);
            Due.is("21 BAD ahead of NO", none.odds(wrong, 0, 0), BAD);
            Due.is("21 BAD ahead of NO", none.odds(0, wrong, 1), BAD);
        }
        for (int part : new int[] {LEAST, -1, 2, 3, 32, MOST}) {
            Due.is("21 BAD: part " + part, ten.odds(0, 0, part), BAD);
            Due.is("21 BAD ahead of NO", none.odds(0, 0, part), BAD);
            Due.is("21 BAD ahead of NO", nine.odds(0, 15, part), BAD);
        }
    }

    private static void oddsOfUnlikeNames() {
        // Sign 0 is 0's, 1's or 2's, sign 1 is 1's or 2's: 0 1, 0 2, 1 2, 2 1.
        MasonMarks x = Due.laid(signs(2) + "c0,0,0;c0,1,1;t0,0,1;t1,1,1;n0,0;n0,1;n0,1;");
        Due.is("20 four ways", x.partings(), 4);
        oddsAre("2 of 4", x, 0, 0, 1, 2);
        oddsAre("1 of 4", x, 1, 0, 1, 4);
        oddsAre("0 of 4", x, 0, 1, 0, 1);
        oddsAre("2 of 4", x, 2, 1, 1, 2);
        Due.is("22 none", x.named(-1), 0);
        Due.is("22 NONE", x.named(0), NONE);
        Due.is("22 NONE", x.named(1), NONE);
    }

    private static void namedEdges() {
        MasonMarks free = Due.laid("g1,99;n0,0;");
        Due.is("22 no SIGN shows: 0", free.named(-1), 0);
        Due.is("22 NONE: it shows nowhere, though there is one NAME", free.named(0), NONE);
        MasonMarks one = Due.laid(signs(2) + "c0,0,0;t0,0,1;n1,1;n0,0;");
        Due.is("22 one", one.named(-1), 1);
        Due.is("22 the NAME", one.named(0), 1);
        Due.is("22 NONE: it shows nowhere", one.named(1), NONE);
        MasonMarks zero = Due.laid("g1,99;c0,0,0;t0,0,1;n0,0;");
        Due.is("22 NAME 0", zero.named(0), 0);
        MasonMarks none = Due.laid(signs(2) + "c0,0,0;t0,0,1;");
        Due.is("22 NO: how many", none.named(-1), NO);
        Due.is("22 NO: of a SIGN", none.named(0), NO);
        Due.is("22 NO ahead of NONE: it shows nowhere", none.named(1), NO);
        for (int wrong : NEVER_TOLD) {
            Due.is("22 BAD: SIGN " + wrong, one.named(wrong), wrong == -1 ? 1 : BAD);
            Due.is("22 BAD ahead of NO: SIGN " + wrong, none.named(wrong), wrong == -1 ? NO : BAD);
        }
        Due.is("22 BAD: SIGN 2 of 2", one.named(2), BAD);
        MasonMarks ten = Due.laid(signs(10) + "c0,0,0;" + showFirst(10) + "n0,0;".repeat(10));
        Due.is("22 of ten and ten none", ten.named(-1), 0);
        // Each SIGN but the first in a WEEK of its own that just one NAME more was there in.
        MasonMarks row = Due.laid(signs(3) + "c0,0,0;c0,1,1;c0,2,2;t0,0,1;t1,1,1;t2,2,1;n0,2;n0,1;n0,0;");
        Due.is("22 one by the others", row.named(-1), 3);
        Due.is("22 one by the others", row.named(0), 2);
        Due.is("22 one by the others", row.named(1), 1);
        Due.is("22 one by the others", row.named(2), 0);
    }

    // ---- promise 23

    private static void grownIs(String why, String text, int due) {
        Due.is("23 " + why, Due.laid("g1,99;g2,0;g3,1;c0,5,9;c1,5,5;c2,4,9;c3,6,6;" + text).grown(1), due);
    }

    private static void grownEdges() {
        grownIs("one COURSE shows both", "t0,0,1;t0,1,1;", 1);
        grownIs("some COURSE shows both, though it was earlier", "t0,0,1;t2,1,1;t3,0,1;t3,1,1;", 1);
        grownIs("no earlier: the same WEEK", "t0,0,1;t1,1,1;", 2);
        grownIs("no earlier: later", "t0,0,1;t3,1,1;", 2);
        grownIs("earlier by one WEEK", "t0,0,1;t2,1,1;", 3);
        grownIs("the first of its COURSES is earlier", "t0,0,1;t3,1,1;t2,1,1;", 3);
        grownIs("the first of the other's is no later", "t0,1,1;t3,0,1;t2,0,1;", 2);
        grownIs("first WEEKS, not last ones", "t2,0,1;t1,1,1;", 2);
        grownIs("NO: the grown one shows nowhere", "t0,0,1;", NO);
        grownIs("NO: the other shows nowhere", "t0,1,1;", NO);
        grownIs("NO: both show nowhere", "t0,98,1;t0,99,1;", NO);
        grownIs("one that is grown from it does not count", "t0,1,1;t0,2,1;", NO);
        MasonMarks x = Due.laid("g1,99;g2,0;g3,1;c0,0,0;c0,1,1;t0,0,1;t0,2,1;t1,1,1;");
        Due.is("23 NO: grown from none", x.grown(0), NO);
        Due.is("23 from the one it is grown from, not from the first", x.grown(2), 3);
        for (int wrong : NEVER_TOLD) {
            Due.is("23 BAD: SIGN " + wrong, x.grown(wrong), BAD);
        }
        Due.is("23 BAD: SIGN 3 of 3", x.grown(3), BAD);
        Due.is("23 the last SIGN of 16", Due.laid(signs(15) + "g1,14;c0,0,0;t0,14,1;t0,15,1;").grown(15), 1);
    }

    // ---- promise 24

    private static void againIs(String why, int due, int... parts) {
        StringBuilder text = new StringBuilder("g1,99;c0,0,0;c1,0,0;c2,0,0;c3,0,0;c4,0,0;c5,0,0;b1,0;b2,1;b3,2;b4,3;b5,4;");
        for (int p : parts) {
            text.append('t').append(p).append(",0,").append(1 << p).append(';');
        }
        Due.is("24 " + why, Due.laid(text.toString()).again(), due);
    }

    private static void againEdges() {
        againIs("no stone", 0);
        againIs("IN one PART", 0, 3);
        againIs("IN two side by side", 0, 2, 3);
        againIs("IN all", 0, 0, 1, 2, 3, 4, 5);
        againIs("IN two apart", 0, 0, 5);
        againIs("IN three apart", 0, 0, 2, 4);
        againIs("at the first place", 1, 0, 2, 3);
        againIs("at the last place", 32, 0, 1, 5);
        againIs("at the last place", 32, 2, 3, 5);
        againIs("three others side by side", 32, 1, 2, 3, 5);
        againIs("twice by one pair", 40, 0, 1, 3, 5);
        againIs("on both sides of a pair", 33, 0, 2, 3, 5);
        againIs("beside the pair is no gap", 0, 1, 2, 3);
        againIs("two pairs", 0, 0, 1, 3, 4);
        againIs("two pairs at the ends", 0, 0, 1, 4, 5);
        Due.is("24 NONE: no ORDER", Due.laid("g1,99;c0,0,0;c1,0,0;t0,0,9;b0,1;b1,0;").again(), NONE);
        Due.is("24 one PART", Due.laid("g1,99;c0,0,0;t0,0,9;").again(), 0);
        // Three PARTS in a row can not have one apart from a pair.
        Due.is("24 three PARTS", Due.laid("g1,99;c0,0,0;c1,0,0;c2,0,0;b1,0;b2,1;t0,0,9;t2,0,9;").again(), 0);
        Due.is("24 four PARTS, stones of two COURSES and two SIGNS",
            Due.laid("g1,99;g1,99;c0,0,0;c1,0,0;c2,0,0;c3,0,0;c0,0,0;b1,0;b2,1;b3,2;t0,0,9;t4,0,5;t2,0,1;t3,0,1;"
                + "t0,1,1;t1,1,1;t3,1,2;").again(), 16);
    }

    public static void main(String[] args) {
        menEdges();
        asksEdges();
        mayEdges();
        partingsEdges();
        oddsEdges();
        oddsOfUnlikeNames();
        namedEdges();
        grownEdges();
        againEdges();
        Due.end();
    }
}
