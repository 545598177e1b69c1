/** Edges of THE TEXT, of writing and of laying it (promises 1 to 5): a test for each that the document names. */
public final class TextEdgesTest {
    private static final int BAD = MasonMarks.BAD, NO = MasonMarks.NO, FULL = MasonMarks.FULL, NONE = MasonMarks.NONE;
    private static final int LEAST = Integer.MIN_VALUE, MOST = Integer.MAX_VALUE;

    private TextEdgesTest() {
    }

    /** The bytes of a short text as one number, the first one highest. */
    private static long asNumber(String text) {
        long v = 0;
        for (int i = 0; i < text.length(); i++) {
            v = v << 8 | text.charAt(i);
        }
        return v;
    }

    // ---- promise 1

    private static void emptyTextIsLaid() {
        MasonMarks x = new MasonMarks();
        for (int what = 0; what <= 6; what++) {
            Due.is("1 of a new object: count " + what, x.count(what), 0);
        }
        Due.is("1 of a new object: fault", x.fault(), NONE);
        Due.is("1 of a new object: wipe", x.wipe(), 0);
        Due.is("1 of a new object: lay", x.lay(), 0);
        Due.is("1 of a new object: back", x.back(), NO);
    }

    private static void nothingIsThereAtFirst() {
        MasonMarks x = new MasonMarks();
        long[] bad = {x.sign(0, 0), x.stones(0, 98), x.stones(0, 99), x.in(0, 98), x.in(0, 99), x.read(0, 98),
            x.alike(0, 1), x.chance(0, 1, 2), x.sure(0, 1), x.seam(0, 0), x.men(0, 2), x.asks(0, 0), x.may(0, 0),
            x.odds(0, 0, 0), x.named(0), x.grown(0)};
        for (int i = 0; i < bad.length; i++) {
            Due.is("1 of a new object, BAD: " + i, bad[i], BAD);
        }
        Due.is("1 the row of no PARTS is one ORDER", x.best(-2), 1);
        Due.is("1 without GAPS", x.best(-1), 0);
        Due.is("1 and without places", x.best(0), NONE);
        Due.is("1 no PAUSE", x.pause(), NONE);
        Due.is("1 no NEXT", x.next(), NONE);
        Due.is("1 none AGAIN", x.again(), 0);
        Due.is("1 one way to part nothing", x.partings(), 1);
        Due.is("1 none NAMED", x.named(-1), 0);
    }

    private static void objectsAreApart() {
        MasonMarks x = Due.laid("g1,99;c0,0,0;t0,0,1;");
        x.keep();
        MasonMarks y = new MasonMarks();
        Due.is("1 another object: COURSES", y.count(1), 0);
        Due.is("1 another object: bytes", y.count(4), 0);
        Due.is("1 another object: KEPT", y.count(5), 0);
        y.write(3, asNumber("w1;"));
        y.lay();
        Due.is("1 the first one is as it was", x.stones(0, 0), 1);
        Due.is("1 the first one is as it was", x.count(5), 1);
    }

    // ---- promise 2

    private static void oneToEightBytes() {
        String[] texts = {"w7;", "w12;", "n0,0;", "g1,99;", "c0,0,0;", "c0,0,10;"};
        for (String text : texts) {
            for (long above : new long[] {0, -1, 0x7777_7777_7777_7777L}) {
                MasonMarks x = new MasonMarks();
                int n = text.length();
                long v = n == 8 ? asNumber(text) : above << (8 * n) | asNumber(text);
                Due.is("2 " + n + " bytes", x.write(n, v), n);
                Due.is("2 " + n + " bytes, the highest first", x.fault(), NONE);
            }
        }
        MasonMarks x = new MasonMarks();
        Due.is("2 one byte", x.write(1, 0x3B77L), 1);
        Due.is("2 two bytes", x.write(2, 0x3B31_3BL), 3);
        Due.is("2 behind THE TEXT", x.fault(), NONE);
    }

    private static void otherNumbersOfBytes() {
        MasonMarks x = new MasonMarks();
        x.write(2, asNumber("w1"));
        for (int n : new int[] {0, -1, -8, 9, 10, 16, 256 + 1, 500, LEAST, LEAST + 1, MOST, MOST - 1}) {
            Due.is("2 BAD: " + n + " bytes", x.write(n, asNumber(";;;;;;;;")), BAD);
            Due.is("2 BAD: nothing changes", x.count(4), 2);
        }
        x.write(1, ';');
        Due.is("2 BAD: nothing was written", x.fault(), NONE);
    }

    /** An object with a text of so many bytes, all w1; but for the last few, which are 1s. */
    private static MasonMarks ofLength(int length) {
        MasonMarks x = new MasonMarks();
        Due.is("2 how long it is", Due.write(x, "w1;".repeat(length / 3) + "111".substring(0, length % 3)), length);
        return x;
    }

    private static void fiveHundredAtMost() {
        for (int n = 1; n <= 8; n++) {
            Due.is("2 up to 500 by " + n, ofLength(500 - n).write(n, 0), 500);
            MasonMarks x = ofLength(501 - n);
            int fault = x.fault();
            Due.is("2 FULL: 501 by " + n, x.write(n, asNumber(";;;;;;;;")), FULL);
            Due.is("2 FULL: nothing changes", x.count(4), 501 - n);
            Due.is("2 FULL: nothing changes", x.fault(), fault);
            Due.is("2 FULL: the text may still grow", x.write(n == 1 ? 0 : n - 1, 0), n == 1 ? BAD : 500);
        }
        MasonMarks x = ofLength(500);
        for (int n = 1; n <= 8; n++) {
            Due.is("2 FULL at 500", x.write(n, 0), FULL);
        }
        for (int n : new int[] {0, 9, -1, LEAST, MOST}) {
            Due.is("2 BAD ahead of FULL", x.write(n, 0), BAD);
        }
        Due.is("2 at 500 nothing changed", x.count(4), 500);
    }

    // ---- promise 3

    private static void wiping() {
        MasonMarks x = ofLength(500);
        Due.is("3 a full text", x.wipe(), 500);
        Due.is("3 it is empty", x.count(4), 0);
        Due.is("3 an empty text", x.wipe(), 0);
        Due.is("3 room for all again", x.write(8, 0), 8);
        x.wipe();
        Due.write(x, "w1;w2;");
        x.wipe();
        Due.write(x, "w1");
        Due.is("3 nothing of the old text is left", x.fault(), 0);
        Due.write(x, ";w2;");
        Due.is("3 as if it were new", x.fault(), NONE);
    }

    private static void wipingLeavesTheWall() {
        MasonMarks x = Due.laid("g1,99;c3,0,0;t0,0,5;n0,0;w5;");
        x.keep();
        x.wipe();
        int[] due = {1, 1, 1, 1, 0, 1, 5};
        for (int what = 0; what <= 6; what++) {
            Due.is("3 count " + what + " behind a wipe", x.count(what), due[what]);
        }
        Due.is("3 the empty text is laid by lay alone", x.lay(), 0);
        Due.is("3 now it is", x.count(6), 0);
    }

    // ---- promise 4

    private static void faultOf(String why, String text, int due) {
        MasonMarks x = new MasonMarks();
        Due.write(x, text);
        Due.is("4 " + why + ": " + text, x.fault(), due);
        Due.is("4 " + why + ", once more: " + text, x.fault(), due);
        int courses = text.length() - text.replace("c", "").length();
        Due.is("5 " + why + ": " + text, x.lay(), due == NONE ? courses : NO);
    }

    /** The text is fine alone and with something on both sides. */
    private static void fine(String why, String text) {
        faultOf(why, text, NONE);
        faultOf(why, text + "w1;", NONE);
    }

    /** The last item of the text, from a place on, is at fault alone, and behind and ahead of others. */
    private static void wrong(String why, String ahead, String item) {
        faultOf(why, ahead + item, ahead.length());
        faultOf(why, "b0,1;" + ahead + item, 5 + ahead.length());
        faultOf(why, ahead + item + "w1;", ahead.length());
        faultOf(why, ahead + item + "w0;x", ahead.length());
    }

    private static void formOfItems() {
        fine("an empty text", "");
        for (String figures : new String[] {"5", "05", "005"}) {
            fine("one to three figures", "w" + figures + ";");
        }
        for (String figures : new String[] {"", "0005", "00005", "1000", "99999999999999999999", "-5", "+5", " 5", "5 ", "x"}) {
            wrong("one to three figures", "", "w" + figures + ";");
        }
        String[] short_ = {"w", "w1", "g", "g1", "g1,", "g1,99", "c0,0,0", "c0,0,", "c0,0", "n0,0", "b0,1", "a0,0,0"};
        for (String item : short_) {
            faultOf("; behind the last one, too", item, 0);
            faultOf("; behind the last one, too", "n0,0;" + item, 5);
        }
        String[] parted = {"w1,", "w1.", "g1;99;", "g1.99;", "g1,,9;", "g,1,99;", "c0,0;0;", "c0;0,0;", "c0 0 0;", "n0,0,", "w1:"};
        for (String item : parted) {
            wrong("parted by , and ;", "", item);
        }
        String[] count = {"g1;", "g1,99,0;", "c0,0;", "c0,0,0,0;", "t0,98;", "t0,98,1,1;", "b0;", "b0,1,2;", "n0;", "n0,0,0;",
            "a0,0;", "a0,0,0,0;", "w;", "w1,1;", "g;", "c;", "t;", "b;", "n;", "a;"};
        for (String item : count) {
            wrong("as many numbers as told", "n0,0;c0,0,0;", item);
        }
    }

    private static void letters() {
        String told = "gctbnaw";
        for (int sign = 0; sign < 256; sign++) {
            char letter = (char) sign;
            if (told.indexOf(letter) < 0) {
                faultOf("no such letter: " + sign, letter + "1,1;", 0);
                faultOf("no such letter: " + sign, "w1;" + letter + "1;", 3);
            }
        }
        for (char sign = 128; sign < 256; sign++) {
            faultOf("a byte above 127 is no figure", "w" + sign + ";", 0);
            faultOf("a byte above 127 is no ;", "w1" + sign, 0);
        }
        wrong("; alone", "w1;", ";");
        wrong("a figure alone", "w1;", "1;");
    }

    private static void signItems() {
        fine("S 1", "g1,99;");
        fine("S 9", "g9,99;");
        for (String s : new String[] {"0", "10", "11", "99", "999"}) {
            wrong("S 1 to 9", "", "g" + s + ",99;");
        }
        fine("B told ahead", "g1,99;g1,0;");
        fine("B the last one told", "g1,99;g1,99;g1,1;");
        wrong("B is itself", "", "g1,0;");
        wrong("B is itself", "g1,99;", "g1,1;");
        wrong("B is told behind", "g1,99;", "g1,2;g1,99;g1,99;");
        for (String b : new String[] {"16", "97", "98", "100", "999"}) {
            wrong("B is no SIGN", "g1,99;", "g1," + b + ";");
        }
        fine("16 at most", "g1,99;".repeat(16));
        wrong("16 at most", "g1,99;".repeat(16), "g1,99;");
        wrong("16 at most", "g1,99;".repeat(16), "g1,15;");
    }

    private static void courseItems() {
        fine("P 0, WEEK 0", "c0,0,0;");
        fine("P 5, WEEK 23", "c5,23,23;");
        fine("WEEKS 0 to 23", "c0,0,23;");
        for (String p : new String[] {"6", "7", "10", "99", "999"}) {
            wrong("P 0 to 5", "", "c" + p + ",0,0;");
        }
        wrong("A 0 to 23", "", "c0,24,24;");
        wrong("A 0 to 23", "", "c0,24,23;");
        wrong("B 0 to 23", "", "c0,0,24;");
        wrong("B 0 to 23", "", "c0,23,999;");
        wrong("B no less than A", "", "c0,1,0;");
        wrong("B no less than A", "", "c0,23,22;");
        fine("16 at most", "c0,0,0;".repeat(16));
        wrong("16 at most", "c0,0,0;".repeat(16), "c0,0,0;");
    }

    private static void stoneItems() {
        fine("N 1", "c0,0,0;t0,98,1;");
        fine("N 99", "c0,0,0;t0,99,99;");
        fine("K told ahead", "g1,99;c0,0,0;t0,0,1;");
        for (String n : new String[] {"0", "00", "000", "100", "999"}) {
            wrong("N 1 to 99", "c0,0,0;", "t0,99," + n + ";");
        }
        wrong("C is not told", "", "t0,98,1;");
        wrong("C is told behind", "", "t0,98,1;c0,0,0;");
        wrong("C is not told", "c0,0,0;", "t1,98,1;");
        wrong("C is not told", "c0,0,0;".repeat(16), "t16,98,1;");
        wrong("K is not told", "c0,0,0;", "t0,0,1;");
        wrong("K is told behind", "c0,0,0;", "t0,0,1;g1,99;");
        for (String k : new String[] {"1", "16", "17", "97", "100", "999"}) {
            wrong("K is none that is told", "g1,99;c0,0,0;", "t0," + k + ",1;");
        }
        fine("K the last one of 16", "g1,99;".repeat(16) + "c0,0,0;t0,15,1;");
        wrong("K 16 of 16", "g1,99;".repeat(16) + "c0,0,0;", "t0,16,1;");
        fine("C the last one of 16", "c0,0,0;".repeat(16) + "t15,98,1;");
    }

    private static void begunItems() {
        for (int p = 0; p <= 6; p++) {
            for (int q = 0; q <= 6; q++) {
                String item = "b" + p + "," + q + ";";
                faultOf("0 to 5, unlike; PARTS need not be there", item, p < 6 && q < 6 && p != q ? NONE : 0);
            }
        }
        wrong("0 to 5", "", "b0,999;");
        wrong("0 to 5", "", "b999,0;");
        fine("it may be told twice, and go round", "b0,1;b0,1;b1,0;");
    }

    private static void nameItems() {
        fine("WEEK 0", "n0,0;");
        fine("WEEK 23", "n23,23;");
        fine("WEEKS 0 to 23", "n0,23;");
        wrong("A 0 to 23", "", "n24,24;");
        wrong("B 0 to 23", "", "n0,24;");
        wrong("B no less than A", "", "n1,0;");
        fine("10 at most", "n0,0;".repeat(10));
        wrong("10 at most", "n0,0;".repeat(10), "n0,0;");
        fine("too", "n0,0;a0,0,0;");
        fine("too", "n0,0;a0,23,23;");
        fine("too, the last one of 10", "n0,0;".repeat(10) + "a9,0,23;");
        wrong("M is not told", "", "a0,0,0;");
        wrong("M is told behind", "", "a0,0,0;n0,0;");
        wrong("M is not told", "n0,0;", "a1,0,0;");
        wrong("M is not told", "n0,0;".repeat(10), "a10,0,0;");
        wrong("too: A 0 to 23", "n0,0;", "a0,24,24;");
        wrong("too: B 0 to 23", "n0,0;", "a0,0,24;");
        wrong("too: B no less than A", "n0,0;", "a0,1,0;");
    }

    private static void paceItems() {
        fine("W 1", "w1;");
        fine("W 99", "w99;");
        wrong("W 1 to 99", "", "w0;");
        wrong("W 1 to 99", "", "w100;");
        wrong("W 1 to 99", "w5;", "w000;");
        fine("as many as there is room for", "w1;".repeat(165));
        faultOf("in the last bytes", "w1;".repeat(166) + "w1", 498);
        faultOf("in the last byte", "w1;".repeat(165) + "w10;w", 499);
    }

    private static void faultIsOfTheText() {
        MasonMarks x = Due.laid("g1,99;c0,0,0;n0,0;");
        x.wipe();
        Due.write(x, "t0,0,1;");
        Due.is("4 what is LAID is not told ahead", x.fault(), 0);
        x.wipe();
        Due.write(x, "g1,0;");
        Due.is("4 what is LAID is not told ahead", x.fault(), 0);
        x.wipe();
        Due.write(x, "a0,0,0;");
        Due.is("4 what is LAID is not told ahead", x.fault(), 0);
        x.wipe();
        Due.write(x, "g1,99;".repeat(16));
        Due.is("4 nor counted among 16", x.fault(), NONE);
        Due.is("4 the wall is as it was", x.count(0), 1);
        Due.is("4 the text is as it was", x.count(4), 96);
    }

    // ---- promise 5

    private static void layRefused() {
        MasonMarks x = Due.laid("g2,99;c4,0,1;c4,0,1;t0,0,30;t0,99,2;b4,1;n3,4;w7;");
        x.keep();
        x.read(0, 0);
        x.keep();
        Due.write(x, "c0,0,0;g5,99;n1,1;w1;b1,4;t0,0,9;x");
        Due.is("5 NO", x.lay(), NO);
        int[] due = {1, 2, 1, 1, 83, 2, 32};
        for (int what = 0; what <= 6; what++) {
            Due.is("5 NO: nothing changes, count " + what, x.count(what), due[what]);
        }
        Due.is("5 NO: nothing changes, strokes", x.sign(0, 0), 2);
        Due.is("5 NO: nothing changes, W", x.asks(0, 0), 5);
        Due.is("5 NO: nothing changes, WEEKS of a NAME", x.may(0, 0), 0);
        Due.is("5 NO: nothing changes, what is KEPT", x.back(), 1);
        Due.is("5 NO: nothing changes, what is KEPT", x.stones(0, 0), 31);
        Due.is("5 NO: nothing changes, what is KEPT", x.back(), 0);
        Due.is("5 NO: nothing changes, what is KEPT", x.stones(0, 0), 30);
    }

    private static void layAnew() {
        MasonMarks x = Due.laid("g2,99;g3,0;c4,0,1;c5,0,1;t0,0,30;t0,99,2;t1,98,2;b4,5;b5,4;n3,4;a0,9,9;w7;");
        x.read(0, 0);
        x.keep();
        Due.is("5 laid once more, as it was told", x.lay(), 2);
        Due.is("5 what was READ is as told", x.stones(0, 99), 2);
        Due.is("5 nothing KEPT", x.count(5), 0);
        Due.is("5 nothing KEPT", x.back(), NO);
        x.wipe();
        Due.write(x, "g1,99;c4,0,1;c5,0,1;n3,3;");
        Due.is("5 another wall", x.lay(), 2);
        Due.is("5 no stones of the old one", x.count(6), 0);
        Due.is("5 no SIGN of the old one", x.sign(1, 0), BAD);
        Due.is("5 no b of the old one", x.best(-2), 2);
        Due.is("5 the text stays", x.count(4), 25);
        x.wipe();
        Due.write(x, "g1,99;c0,0,9;t0,0,13;n0,0;");
        x.lay();
        Due.is("5 12 without w", x.asks(0, 0), 2);
        Due.is("5 no WEEKS of the old NAME", x.may(0, 0), 0);
        x.wipe();
        Due.is("5 an empty text", x.lay(), 0);
        Due.is("5 no PARTS", x.count(2), 0);
    }

    private static void layTwiceKeepsWallsApart() {
        MasonMarks x = Due.laid("g1,99;c0,0,0;t0,99,9;");
        Due.is("5 laid twice", x.lay(), 1);
        Due.is("5 laid twice: stones are not doubled", x.stones(0, 99), 9);
        x.read(0, 0);
        Due.is("4 a look at the text", x.fault(), NONE);
        Due.is("4 leaves the wall as it is", x.stones(0, 99), 8);
        Due.is("4 leaves the wall as it is", x.stones(0, 0), 1);
    }

    private static void lastPaceHolds() {
        Due.is("w: 12 without", Due.laid("g1,99;c0,0,0;t0,0,99;").asks(0, 0), 9);
        Due.is("w: the last one", Due.laid("g1,99;c0,0,0;t0,0,99;w1;w50;").asks(0, 0), 2);
        Due.is("w: the last one", Due.laid("w50;g1,99;c0,0,0;t0,0,99;w1;").asks(0, 0), 99);
        Due.is("w: ahead of all", Due.laid("w99;g1,99;c0,0,0;t0,0,99;").asks(0, 0), 1);
    }

    public static void main(String[] args) {
        emptyTextIsLaid();
        nothingIsThereAtFirst();
        objectsAreApart();
        oneToEightBytes();
        otherNumbersOfBytes();
        fiveHundredAtMost();
        wiping();
        wipingLeavesTheWall();
        formOfItems();
        letters();
        signItems();
        courseItems();
        stoneItems();
        begunItems();
        nameItems();
        paceItems();
        faultIsOfTheText();
        layRefused();
        layAnew();
        layTwiceKeepsWallsApart();
        lastPaceHolds();
        Due.end();
    }
}
