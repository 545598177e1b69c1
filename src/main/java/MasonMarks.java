import java.util.Arrays;

/** Marks that masons cut: what a wall's stones tell of the order of its parts and of its men. */
public final class MasonMarks {
    public static final int BAD = -1, NO = -2, FULL = -3, NONE = -4;

    private static final int LONGEST_TEXT = 500;
    private static final int MOST_FIGURES = 3;
    private static final int MOST_NUMBERS = 3;
    private static final int MOST_SIGNS = 16;
    private static final int MOST_COURSES = 16;
    private static final int MOST_PARTS = 6;
    private static final int MOST_NAMES = 10;
    private static final int MOST_KEPT = 2;
    private static final int MOST_MEN = 12;
    private static final int WEEKS = 24;
    private static final int USUAL_PACE = 12;

    // The numbers by which texts and calls speak of stones without a sign, and where these are held.
    private static final int PLAIN = 98;
    private static final int UNSEEN = 99;
    private static final int PLAIN_COLUMN = MOST_SIGNS;
    private static final int UNSEEN_COLUMN = MOST_SIGNS + 1;
    private static final int COLUMNS = MOST_SIGNS + 2;
    private static final int ALL_PLACES = MOST_COURSES * COLUMNS;

    private static final int[] ROWS_OF = {1, 1, 2, 6, 24, 120, 720};

    private final Scroll text;
    private final Rolls rolls;
    private final Orders orders;
    private final int[] plan;
    private final int[][] shelf;
    private Wall laid;
    // A text is told to this wall, so that one with a fault leaves the laid wall alone.
    private Wall draft;
    private int shelved;

    public MasonMarks() {
        text = new Scroll();
        rolls = new Rolls();
        orders = new Orders();
        plan = new int[MOST_PARTS];
        shelf = new int[MOST_KEPT][ALL_PLACES];
        laid = new Wall();
        draft = new Wall();
        shelved = 0;
    }

    // ---- walls

    public int write(int n, long v) {
        if (n < 1 || n > 8) {
            return BAD;
        }
        if (text.length + n > LONGEST_TEXT) {
            return FULL;
        }
        text.append(n, v);
        return text.length;
    }

    public int wipe() {
        int was = text.length;
        text.length = 0;
        return was;
    }

    public int fault() {
        return text.tellTo(draft);
    }

    public int lay() {
        if (text.tellTo(draft) != NONE) {
            return NO;
        }
        Wall old = laid;
        laid = draft;
        draft = old;
        shelved = 0;
        return laid.courses;
    }

    public int sign(int k, int what) {
        if (!laid.hasSign(k)) {
            return BAD;
        }
        switch (what) {
            case 0:
                return laid.strokes[k];
            case 1:
                return laid.grownFrom[k];
            case 2:
                return laid.stonesShowing(k);
            case 3:
                return laid.partsShowing(k);
            default:
                return BAD;
        }
    }

    public int stones(int c, int k) {
        int column = laid.columnOf(k);
        if (!laid.hasCourse(c) || column < 0) {
            return BAD;
        }
        return laid.stonesAt(c, column);
    }

    public int in(int p, int k) {
        int column = laid.columnOf(k);
        if (!laid.hasPart(p) || column < 0) {
            return BAD;
        }
        return laid.stonesOfPart(p, column);
    }

    public int read(int c, int k) {
        int column = laid.columnOf(k);
        if (!laid.hasCourse(c) || column < 0 || column == UNSEEN_COLUMN) {
            return BAD;
        }
        if (laid.stonesAt(c, UNSEEN_COLUMN) < 1) {
            return NO;
        }
        laid.addAt(c, UNSEEN_COLUMN, -1);
        laid.addAt(c, column, 1);
        return laid.stonesAt(c, UNSEEN_COLUMN);
    }

    // ---- parts

    public int alike(int p, int q) {
        if (!areTwoParts(p, q)) {
            return BAD;
        }
        int one = laid.signsIn(p);
        int other = laid.signsIn(q);
        int all = laid.strokesOf(one | other);
        return all < 1 ? 0 : 1000 * laid.strokesOf(one & other) / all;
    }

    public long chance(int p, int q, int part) {
        if (!areTwoParts(p, q) || part < 0 || part > 2) {
            return BAD;
        }
        int one = laid.signsIn(p);
        int other = laid.signsIn(q);
        int a = Integer.bitCount(one);
        int b = Integer.bitCount(other);
        int c = Integer.bitCount(one & other);
        if (part == 2) {
            return c;
        }
        long below = choices(laid.signs, b);
        return lowest(drawsWithShared(laid.signs, a, b, c), below, part);
    }

    public int best(int i) {
        if (i < -2) {
            return BAD;
        }
        orders.weighWall(laid);
        if (!orders.exist()) {
            return NONE;
        }
        if (i == -1) {
            return orders.fewestGaps();
        }
        if (i == -2) {
            return orders.howMany();
        }
        return orders.partAt(i);
    }

    public int sure(int p, int q) {
        if (!areTwoParts(p, q)) {
            return BAD;
        }
        orders.weighWall(laid);
        if (!orders.exist()) {
            return NONE;
        }
        int ahead = orders.howManyAhead(p, q);
        if (ahead == orders.howMany()) {
            return 1;
        }
        return ahead == 0 ? 2 : 0;
    }

    public int seam(int i, int what) {
        int seams = Integer.bitCount(laid.partBits()) - 1;
        if (i < 0 || i >= seams || what < 0 || what > 2) {
            return BAD;
        }
        orders.weighWall(laid);
        if (!orders.exist()) {
            return NONE;
        }
        if (what == 0) {
            return Integer.bitCount(orders.goingOver(i));
        }
        return Integer.bitCount(what == 1 ? orders.endingAt(i) : orders.beginningAt(i));
    }

    public int pause() {
        orders.weighWall(laid);
        int place = NONE;
        int fewest = 0;
        for (int i = 0; i < orders.rowLength - 1; i++) {
            int strokes = orders.strokesOf(orders.goingOver(i));
            if (place == NONE || strokes < fewest) {
                place = i;
                fewest = strokes;
            }
        }
        return place;
    }

    public int next() {
        orders.weighWall(laid);
        if (!orders.exist()) {
            return NONE;
        }
        int now = orders.howMany();
        int part = NONE;
        int fewest = 0;
        for (int p = 0; p < MOST_PARTS; p++) {
            if (laid.stonesOfPart(p, UNSEEN_COLUMN) > 0) {
                int worst = orders.mostWithOneMore(p, laid.signs, now);
                if (part == NONE || worst < fewest) {
                    part = p;
                    fewest = worst;
                }
            }
        }
        return part;
    }

    // ---- men, names

    public int men(int c, int what) {
        if (!laid.hasCourse(c)) {
            return BAD;
        }
        switch (what) {
            case 0:
                return laid.menAtLeast(c);
            case 1:
                return laid.menAtMost(c);
            case 2:
                return roundedUp(laid.stonesOfCourse(c), laid.weeksOfCourse(c));
            default:
                return BAD;
        }
    }

    public int asks(int k, int c) {
        if (!laid.hasSign(k) || !laid.hasCourse(c)) {
            return BAD;
        }
        return laid.weeksAsked(k, c);
    }

    public int may(int m, int k) {
        if (!laid.hasName(m) || !laid.hasSign(k)) {
            return BAD;
        }
        return laid.mayHaveCut(m, k) ? 1 : 0;
    }

    public long partings() {
        rolls.callOver(laid);
        return rolls.allWays();
    }

    public long odds(int m, int k, int part) {
        if (!laid.hasName(m) || !laid.hasSign(k) || part < 0 || part > 1) {
            return BAD;
        }
        rolls.callOver(laid);
        if (rolls.allWays() == 0 || !rolls.isShown(k)) {
            return NO;
        }
        return lowest(rolls.waysTogether(m, k), rolls.allWays(), part);
    }

    public int named(int k) {
        if (k != -1 && !laid.hasSign(k)) {
            return BAD;
        }
        rolls.callOver(laid);
        if (rolls.allWays() == 0) {
            return NO;
        }
        rolls.listOwners();
        return k == -1 ? rolls.signsWithOneOwner() : rolls.onlyOwner(k);
    }

    public int grown(int k) {
        if (!laid.hasSign(k)) {
            return BAD;
        }
        int older = laid.grownFrom[k];
        if (!laid.hasSign(older)) {
            return NO;
        }
        int first = laid.firstWeekShowing(k);
        int olderFirst = laid.firstWeekShowing(older);
        if (first == NONE || olderFirst == NONE) {
            return NO;
        }
        if (laid.oneCourseShowsBoth(k, older)) {
            return 1;
        }
        return first >= olderFirst ? 2 : 3;
    }

    public int again() {
        orders.weighWall(laid);
        if (!orders.exist()) {
            return NONE;
        }
        int sum = 0;
        for (int i = 0; i < orders.rowLength; i++) {
            int astray = orders.astrayAt(i);
            for (int k = 0; k < MOST_SIGNS; k++) {
                if ((astray >> k & 1) == 1) {
                    sum += laid.stonesOfPart(orders.partAt(i), k);
                }
            }
        }
        return sum;
    }

    // ---- buildings

    public int found(int z, int n, int o, int m, int h, int what) {
        if (z < 0 || z > 9999 || n < 2 || n > MOST_PARTS || o < 0 || o >= ROWS_OF[n]) {
            return BAD;
        }
        if (m < 1 || m > MOST_MEN || h < 0 || h > 100 || what < 0 || what > 2) {
            return BAD;
        }
        planRow(n, o);
        orders.clear((1 << n) - 1);
        for (int man = 0; man < m; man++) {
            letCut(z, n, man, h);
        }
        orders.weigh();
        if (what == 0) {
            return orders.fewestGaps();
        }
        if (what == 1) {
            return orders.howMany();
        }
        // The row the other way about has the same gaps, so one look is enough.
        return orders.gapsOf(plan, n) == orders.fewestGaps() ? 1 : 0;
    }

    public int keep() {
        if (shelved >= MOST_KEPT) {
            return FULL;
        }
        System.arraycopy(laid.heaps, 0, shelf[shelved], 0, ALL_PLACES);
        shelved++;
        return shelved;
    }

    public int back() {
        if (shelved < 1) {
            return NO;
        }
        shelved--;
        System.arraycopy(shelf[shelved], 0, laid.heaps, 0, ALL_PLACES);
        return shelved;
    }

    public int count(int what) {
        switch (what) {
            case 0:
                return laid.signs;
            case 1:
                return laid.courses;
            case 2:
                return Integer.bitCount(laid.partBits());
            case 3:
                return laid.names;
            case 4:
                return text.length;
            case 5:
                return shelved;
            case 6:
                return laid.allStones();
            default:
                return BAD;
        }
    }

    private boolean areTwoParts(int p, int q) {
        return laid.hasPart(p) && laid.hasPart(q) && p != q;
    }

    /** Puts the o-th of all rows of n parts into the plan. */
    private void planRow(int n, int o) {
        int free = (1 << n) - 1;
        int rest = o;
        for (int i = 0; i < n; i++) {
            int rows = ROWS_OF[n - 1 - i];
            int part = freePart(free, rest / rows);
            plan[i] = part;
            free &= ~(1 << part);
            rest %= rows;
        }
    }

    private static int freePart(int free, int skipped) {
        int left = skipped;
        for (int p = 0; p < MOST_PARTS; p++) {
            if ((free >> p & 1) == 1) {
                if (left == 0) {
                    return p;
                }
                left--;
            }
        }
        return 0;
    }

    /** Lets a man of a building come, cut and leave. */
    private void letCut(int z, int n, int man, int h) {
        int from = drawn(z, man, 0) % n;
        int stay = 1 + drawn(z, man, 1) % 3;
        orders.strokes[man] = 1 + drawn(z, man, 2) % 5;
        for (int place = from; place < n && place < from + stay; place++) {
            if (drawn(z, man, 10 + place) % 100 < h) {
                orders.signsOf[plan[place]] |= 1 << man;
            }
        }
    }

    private static int drawn(int z, int i, int k) {
        long x = 7919L * z + 6151L * i + 3571L * k + 1;
        return (int) (x * x % 65521 % 10000);
    }

    private static int roundedUp(int above, int below) {
        return below < 1 ? 0 : (above + below - 1) / below;
    }

    /** How many ways there are to take k of n. */
    private static long choices(int n, int k) {
        if (k < 0 || k > n) {
            return 0;
        }
        long ways = 1;
        for (int i = 1; i <= k; i++) {
            ways = ways * (n - k + i) / i;
        }
        return ways;
    }

    /** Of all ways to take b of t signs those with c or more of the a signs. */
    private static long drawsWithShared(int t, int a, int b, int c) {
        long ways = 0;
        for (int shared = c; shared <= a; shared++) {
            ways += choices(a, shared) * choices(t - a, b - shared);
        }
        return ways;
    }

    /** What stands above (part 0) or below (part 1) in lowest terms. */
    private static long lowest(long above, long below, int part) {
        long a = above;
        long b = below;
        for (int i = 0; i < 200 && b != 0; i++) {
            long rest = a % b;
            a = b;
            b = rest;
        }
        if (a == 0) {
            return 0;
        }
        return (part == 0 ? above : below) / a;
    }

    /** THE TEXT, and how its items are told to a wall. */
    private static final class Scroll {
        final byte[] bytes = new byte[LONGEST_TEXT];
        final int[] numbers = new int[MOST_NUMBERS];
        int length;

        void append(int n, long v) {
            for (int i = n - 1; i >= 0 && length < LONGEST_TEXT; i--) {
                bytes[length] = (byte) (v >> (8 * i));
                length++;
            }
        }

        /** Tells the whole text to a wall: the place of the item that is at fault, or NONE. */
        int tellTo(Wall wall) {
            wall.clear();
            int place = 0;
            for (int items = 0; items < LONGEST_TEXT && place < length; items++) {
                int end = split(place);
                if (end < 0 || !wall.accept(byteAt(place), numbers[0], numbers[1], numbers[2])) {
                    return place;
                }
                place = end;
            }
            return NONE;
        }

        /** Takes the numbers of the item at a place: the place behind it, or NONE. */
        private int split(int start) {
            int wanted = numbersOf(byteAt(start));
            int place = start + 1;
            for (int i = 0; i < wanted && i < MOST_NUMBERS; i++) {
                int figures = figuresAt(place);
                if (figures < 1) {
                    return NONE;
                }
                numbers[i] = numberAt(place, figures);
                place += figures;
                if (byteAt(place) != (i < wanted - 1 ? ',' : ';')) {
                    return NONE;
                }
                place++;
            }
            return wanted > 0 ? place : NONE;
        }

        private static int numbersOf(int letter) {
            switch (letter) {
                case 'w':
                    return 1;
                case 'g':
                case 'b':
                case 'n':
                    return 2;
                case 'c':
                case 't':
                case 'a':
                    return 3;
                default:
                    return 0;
            }
        }

        /** A figure beyond the most is left, and so stands where , or ; is due. */
        private int figuresAt(int place) {
            int figures = 0;
            for (int i = 0; i < MOST_FIGURES && isFigure(byteAt(place + i)); i++) {
                figures++;
            }
            return figures;
        }

        private int numberAt(int place, int figures) {
            int number = 0;
            for (int i = 0; i < figures; i++) {
                number = 10 * number + byteAt(place + i) - '0';
            }
            return number;
        }

        private static boolean isFigure(int sign) {
            return sign >= '0' && sign <= '9';
        }

        private int byteAt(int place) {
            return place >= 0 && place < length && place < LONGEST_TEXT ? bytes[place] & 255 : NONE;
        }
    }

    /** A wall as a text tells it, with what can be counted off its stones. */
    private static final class Wall {
        final int[] strokes = new int[MOST_SIGNS];
        final int[] grownFrom = new int[MOST_SIGNS];
        final int[] partOf = new int[MOST_COURSES];
        final int[] firstWeek = new int[MOST_COURSES];
        final int[] lastWeek = new int[MOST_COURSES];
        final int[] heaps = new int[ALL_PLACES];
        final int[] begunBehind = new int[MOST_PARTS];
        final int[] weeksOf = new int[MOST_NAMES];
        int signs;
        int courses;
        int names;
        int pace = USUAL_PACE;

        void clear() {
            signs = 0;
            courses = 0;
            names = 0;
            pace = USUAL_PACE;
            Arrays.fill(heaps, 0);
            Arrays.fill(begunBehind, 0);
        }

        /** Takes an item, unless it is at fault. */
        boolean accept(int letter, int a, int b, int c) {
            switch (letter) {
                case 'g':
                    return addSign(a, b);
                case 'c':
                    return addCourse(a, b, c);
                case 't':
                    return addStones(a, b, c);
                case 'b':
                    return addBegun(a, b);
                case 'n':
                    return addName(a, b);
                case 'a':
                    return addStay(a, b, c);
                case 'w':
                    return setPace(a);
                default:
                    return false;
            }
        }

        private boolean addSign(int lines, int older) {
            if (signs >= MOST_SIGNS || lines < 1 || lines > 9 || !(hasSign(older) || older == 99)) {
                return false;
            }
            strokes[signs] = lines;
            grownFrom[signs] = older == 99 ? NONE : older;
            signs++;
            return true;
        }

        private boolean addCourse(int part, int first, int last) {
            if (courses >= MOST_COURSES || part < 0 || part >= MOST_PARTS || !areWeeks(first, last)) {
                return false;
            }
            partOf[courses] = part;
            firstWeek[courses] = first;
            lastWeek[courses] = last;
            courses++;
            return true;
        }

        private boolean addStones(int c, int k, int more) {
            int column = columnOf(k);
            if (!hasCourse(c) || column < 0 || more < 1 || more > 99) {
                return false;
            }
            addAt(c, column, more);
            return true;
        }

        private boolean addBegun(int later, int earlier) {
            if (later < 0 || later >= MOST_PARTS || earlier < 0 || earlier >= MOST_PARTS || later == earlier) {
                return false;
            }
            begunBehind[later] |= 1 << earlier;
            return true;
        }

        private boolean addName(int first, int last) {
            if (names >= MOST_NAMES || !areWeeks(first, last)) {
                return false;
            }
            weeksOf[names] = weekBits(first, last);
            names++;
            return true;
        }

        private boolean addStay(int m, int first, int last) {
            if (!hasName(m) || !areWeeks(first, last)) {
                return false;
            }
            weeksOf[m] |= weekBits(first, last);
            return true;
        }

        private boolean setPace(int stones) {
            if (stones < 1 || stones > 99) {
                return false;
            }
            pace = stones;
            return true;
        }

        private static boolean areWeeks(int first, int last) {
            return first >= 0 && first <= last && last < WEEKS;
        }

        private static int weekBits(int first, int last) {
            return (1 << (last + 1)) - (1 << first);
        }

        boolean hasSign(int k) {
            return k >= 0 && k < signs && k < MOST_SIGNS;
        }

        boolean hasCourse(int c) {
            return c >= 0 && c < courses && c < MOST_COURSES;
        }

        boolean hasName(int m) {
            return m >= 0 && m < names && m < MOST_NAMES;
        }

        boolean hasPart(int p) {
            return p >= 0 && p < MOST_PARTS && (partBits() >> p & 1) == 1;
        }

        int partBits() {
            int bits = 0;
            for (int c = 0; c < courses; c++) {
                bits |= 1 << partOf[c];
            }
            return bits;
        }

        /** Where stones of a sign, or of 98 and 99, are held in a course; below 0 for any other number. */
        int columnOf(int k) {
            if (k == PLAIN) {
                return PLAIN_COLUMN;
            }
            if (k == UNSEEN) {
                return UNSEEN_COLUMN;
            }
            return hasSign(k) ? k : NONE;
        }

        int stonesAt(int c, int column) {
            boolean there = hasCourse(c) && column >= 0 && column < COLUMNS;
            return there ? heaps[c * COLUMNS + column] : 0;
        }

        void addAt(int c, int column, int more) {
            if (hasCourse(c) && column >= 0 && column < COLUMNS) {
                heaps[c * COLUMNS + column] += more;
            }
        }

        int stonesOfCourse(int c) {
            int sum = 0;
            for (int column = 0; column < COLUMNS; column++) {
                sum += stonesAt(c, column);
            }
            return sum;
        }

        int stonesOfPart(int p, int column) {
            int sum = 0;
            for (int c = 0; c < courses; c++) {
                if (partOf[c] == p) {
                    sum += stonesAt(c, column);
                }
            }
            return sum;
        }

        int stonesShowing(int k) {
            int sum = 0;
            for (int c = 0; c < courses; c++) {
                sum += stonesAt(c, k);
            }
            return sum;
        }

        int allStones() {
            int sum = 0;
            for (int c = 0; c < courses; c++) {
                sum += stonesOfCourse(c);
            }
            return sum;
        }

        int partsShowing(int k) {
            int bits = 0;
            for (int c = 0; c < courses; c++) {
                if (stonesAt(c, k) > 0) {
                    bits |= 1 << partOf[c];
                }
            }
            return bits;
        }

        int signsIn(int p) {
            int bits = 0;
            for (int c = 0; c < courses; c++) {
                if (partOf[c] == p) {
                    bits |= signsShownBy(c);
                }
            }
            return bits;
        }

        private int signsShownBy(int c) {
            int bits = 0;
            for (int k = 0; k < signs; k++) {
                if (stonesAt(c, k) > 0) {
                    bits |= 1 << k;
                }
            }
            return bits;
        }

        int strokesOf(int bits) {
            int sum = 0;
            for (int k = 0; k < signs; k++) {
                sum += (bits >> k & 1) * strokes[k];
            }
            return sum;
        }

        int weeksOfCourse(int c) {
            return hasCourse(c) ? lastWeek[c] - firstWeek[c] + 1 : 0;
        }

        int menAtLeast(int c) {
            int bySigns = Integer.bitCount(signsShownBy(c));
            return Math.max(bySigns, roundedUp(stonesOfCourse(c), pace * weeksOfCourse(c)));
        }

        int menAtMost(int c) {
            int signless = stonesAt(c, PLAIN_COLUMN) + stonesAt(c, UNSEEN_COLUMN);
            return Math.max(Integer.bitCount(signsShownBy(c)) + signless, menAtLeast(c));
        }

        int weeksAsked(int k, int c) {
            return roundedUp(stonesAt(c, k), pace);
        }

        boolean mayHaveCut(int m, int k) {
            if (!hasName(m)) {
                return false;
            }
            for (int c = 0; c < courses; c++) {
                int shared = weeksOf[m] & weekBits(firstWeek[c], lastWeek[c]);
                if (Integer.bitCount(shared) < weeksAsked(k, c)) {
                    return false;
                }
            }
            return true;
        }

        /** The first week of all courses that show a sign, or NONE. */
        int firstWeekShowing(int k) {
            int first = NONE;
            for (int c = 0; c < courses; c++) {
                if (stonesAt(c, k) > 0 && (first == NONE || firstWeek[c] < first)) {
                    first = firstWeek[c];
                }
            }
            return first;
        }

        boolean oneCourseShowsBoth(int k, int other) {
            for (int c = 0; c < courses; c++) {
                if (stonesAt(c, k) > 0 && stonesAt(c, other) > 0) {
                    return true;
                }
            }
            return false;
        }
    }

    /**
     * The orders of parts with fewest gaps. What a part adds to the gaps hangs only on which parts are
     * ahead of it, not on their row: so sets of parts (as bits) are weighed, not all the rows.
     */
    private static final class Orders {
        static final int SETS = 1 << MOST_PARTS;

        final int[] signsOf = new int[MOST_PARTS];
        final int[] strokes = new int[MOST_SIGNS];
        final int[] mustBeBehind = new int[MOST_PARTS];
        // Of a set that is ahead: the fewest gaps that the others still add, and rows of these that do so.
        final int[] fewest = new int[SETS];
        final int[] rows = new int[SETS];
        final int[] reached = new int[SETS];
        // Of a set: all signs that are in one of its parts (of the empty one none).
        final int[] signsOfSet = new int[SETS];
        final int[] row = new int[MOST_PARTS];
        int rowLength;
        int parts;

        void clear(int newParts) {
            parts = newParts & (SETS - 1);
            Arrays.fill(signsOf, 0);
            Arrays.fill(strokes, 0);
            Arrays.fill(mustBeBehind, 0);
        }

        void weighWall(Wall wall) {
            clear(wall.partBits());
            for (int k = 0; k < wall.signs; k++) {
                strokes[k] = wall.strokes[k];
            }
            for (int p = 0; p < MOST_PARTS; p++) {
                signsOf[p] = wall.signsIn(p);
                mustBeBehind[p] = wall.begunBehind[p] & parts;
            }
            weigh();
            traceFirstRow();
        }

        void weigh() {
            gatherSigns();
            for (int ahead = parts; ahead >= 0; ahead--) {
                if ((ahead & ~parts) == 0) {
                    weighSet(ahead);
                }
            }
        }

        private void gatherSigns() {
            for (int p = 0; p < MOST_PARTS; p++) {
                for (int set = 0; set < 1 << p; set++) {
                    signsOfSet[set | 1 << p] = signsOfSet[set] | signsOf[p];
                }
            }
        }

        private void weighSet(int ahead) {
            fewest[ahead] = 0;
            rows[ahead] = ahead == parts ? 1 : 0;
            for (int p = 0; p < MOST_PARTS; p++) {
                if (mayFollow(ahead, p)) {
                    int then = ahead | 1 << p;
                    int gaps = gapsAdded(ahead, p) + fewest[then];
                    if (rows[ahead] == 0 || gaps < fewest[ahead]) {
                        fewest[ahead] = gaps;
                        rows[ahead] = rows[then];
                    } else if (gaps == fewest[ahead]) {
                        rows[ahead] += rows[then];
                    }
                }
            }
        }

        /** Whether a part may stand behind a set, so that the others can still be put behind both. */
        private boolean mayFollow(int ahead, int p) {
            boolean waits = (parts & ~ahead & 1 << p) != 0;
            return waits && (mustBeBehind[p] & ~ahead) == 0 && rows[ahead | 1 << p] > 0;
        }

        private boolean isBestStep(int ahead, int p) {
            return mayFollow(ahead, p) && gapsAdded(ahead, p) + fewest[ahead | 1 << p] == fewest[ahead];
        }

        /** Strokes of the signs that lie on both sides of a part and not in it. */
        private int gapsAdded(int ahead, int p) {
            int behind = parts & ~ahead & ~(1 << p);
            return strokesOf(signsOfSet[ahead] & signsOfSet[behind] & ~signsOf[p]);
        }

        int strokesOf(int bits) {
            int sum = 0;
            for (int k = 0; k < MOST_SIGNS && bits >> k != 0; k++) {
                sum += (bits >> k & 1) * strokes[k];
            }
            return sum;
        }

        private void traceFirstRow() {
            rowLength = 0;
            int ahead = 0;
            for (int i = 0; i < MOST_PARTS && ahead != parts; i++) {
                int p = firstBestStep(ahead);
                if (p < 0) {
                    return;
                }
                row[i] = p;
                rowLength = i + 1;
                ahead |= 1 << p;
            }
        }

        private int firstBestStep(int ahead) {
            for (int p = 0; p < MOST_PARTS; p++) {
                if (isBestStep(ahead, p)) {
                    return p;
                }
            }
            return NONE;
        }

        boolean exist() {
            return rows[0] > 0;
        }

        int howMany() {
            return rows[0];
        }

        int fewestGaps() {
            return fewest[0];
        }

        int partAt(int i) {
            return i >= 0 && i < rowLength && i < MOST_PARTS ? row[i] : NONE;
        }

        /** In how many of the best orders the one part is ahead of the other. */
        int howManyAhead(int p, int q) {
            Arrays.fill(reached, 0);
            reached[0] = 1;
            int sum = 0;
            for (int ahead = 0; ahead < parts; ahead++) {
                if (reached[ahead] > 0) {
                    reachFrom(ahead);
                    if ((ahead >> q & 1) == 0 && isBestStep(ahead, p)) {
                        sum += reached[ahead] * rows[ahead | 1 << p];
                    }
                }
            }
            return sum;
        }

        private void reachFrom(int ahead) {
            for (int p = 0; p < MOST_PARTS; p++) {
                if (isBestStep(ahead, p)) {
                    reached[ahead | 1 << p] += reached[ahead];
                }
            }
        }

        private int signsAt(int i) {
            int p = partAt(i);
            return p >= 0 ? signsOf[p] : 0;
        }

        private int signsUpTo(int last) {
            int bits = 0;
            for (int i = 0; i < MOST_PARTS && i <= last; i++) {
                bits |= signsAt(i);
            }
            return bits;
        }

        private int signsBehind(int place) {
            int bits = 0;
            for (int i = place + 1; i < MOST_PARTS; i++) {
                bits |= signsAt(i);
            }
            return bits;
        }

        int goingOver(int i) {
            return signsUpTo(i) & signsBehind(i);
        }

        int endingAt(int i) {
            return signsAt(i) & ~signsBehind(i);
        }

        int beginningAt(int i) {
            return signsAt(i + 1) & ~signsUpTo(i);
        }

        /** Signs at a place that are not beside it, but side by side elsewhere in the first row. */
        int astrayAt(int i) {
            int sideBySide = 0;
            for (int j = 0; j < MOST_PARTS - 1; j++) {
                sideBySide |= signsAt(j) & signsAt(j + 1);
            }
            return signsAt(i) & ~signsAt(i - 1) & ~signsAt(i + 1) & sideBySide;
        }

        /** How many best orders there are at worst when a part has one sign more; now, if it has all. */
        int mostWithOneMore(int p, int signs, int now) {
            int had = signsOf[p];
            int most = 0;
            for (int k = 0; k < signs; k++) {
                if ((had >> k & 1) == 0) {
                    signsOf[p] = had | 1 << k;
                    weigh();
                    most = Math.max(most, rows[0]);
                }
            }
            signsOf[p] = had;
            return most > 0 ? most : now;
        }

        int gapsOf(int[] plan, int length) {
            int ahead = 0;
            int gaps = 0;
            for (int i = 0; i < length && i < plan.length; i++) {
                gaps += gapsAdded(ahead, plan[i]);
                ahead |= 1 << plan[i];
            }
            return gaps;
        }
    }

    /** The rolls of names: ways to give each sign that shows a name of its own; names are held as bits. */
    private static final class Rolls {
        static final int SETS = 1 << MOST_NAMES;

        // The signs that show stand in a row; of each its place there, and of a place who may and who does own it.
        final int[] placeOf = new int[MOST_SIGNS];
        final int[] mayOwn = new int[MOST_SIGNS];
        final int[] owners = new int[MOST_SIGNS];
        // As many signs as a set has names are given: ways to give them to just this set, and to go on from it.
        final int[] given = new int[SETS];
        final int[] toGive = new int[SETS];
        int shown;
        int names;

        /** Finds all ways; what other methods answer is of the wall that was called over last. */
        void callOver(Wall wall) {
            names = Math.min(wall.names, MOST_NAMES);
            shown = 0;
            for (int k = 0; k < MOST_SIGNS; k++) {
                placeOf[k] = NONE;
                if (wall.hasSign(k) && wall.stonesShowing(k) > 0) {
                    placeOf[k] = shown;
                    mayOwn[shown] = cuttersOf(wall, k);
                    shown++;
                }
            }
            countGiven();
            countToGive();
        }

        private int cuttersOf(Wall wall, int k) {
            int bits = 0;
            for (int m = 0; m < names; m++) {
                if (wall.mayHaveCut(m, k)) {
                    bits |= 1 << m;
                }
            }
            return bits;
        }

        private int mayOwnAt(int place) {
            return place >= 0 && place < shown && place < MOST_SIGNS ? mayOwn[place] : 0;
        }

        private void countGiven() {
            given[0] = 1;
            for (int set = 1; set < 1 << names; set++) {
                int last = mayOwnAt(Integer.bitCount(set) - 1) & set;
                int ways = 0;
                for (int m = 0; m < names; m++) {
                    if ((last >> m & 1) == 1) {
                        ways += given[set & ~(1 << m)];
                    }
                }
                given[set] = ways;
            }
        }

        private void countToGive() {
            for (int set = (1 << names) - 1; set >= 0; set--) {
                int place = Integer.bitCount(set);
                int ways = place == shown ? 1 : 0;
                int free = mayOwnAt(place) & ~set;
                for (int m = 0; m < names; m++) {
                    if ((free >> m & 1) == 1) {
                        ways += toGive[set | 1 << m];
                    }
                }
                toGive[set] = ways;
            }
        }

        long allWays() {
            return toGive[0];
        }

        boolean isShown(int k) {
            return k >= 0 && k < MOST_SIGNS && placeOf[k] >= 0;
        }

        long waysTogether(int m, int k) {
            int place = isShown(k) ? placeOf[k] : NONE;
            long ways = 0;
            for (int set = 0; set < 1 << names; set++) {
                if (Integer.bitCount(set) == place && (mayOwnAt(place) & ~set & 1 << m) != 0) {
                    ways += (long) given[set] * toGive[set | 1 << m];
                }
            }
            return ways;
        }

        /** Notes for each sign that shows who owns it in some of the ways. */
        void listOwners() {
            Arrays.fill(owners, 0);
            for (int set = 0; set < 1 << names; set++) {
                int place = Integer.bitCount(set);
                if (place < shown && place < MOST_SIGNS && given[set] > 0) {
                    owners[place] |= ownersBehind(set, mayOwnAt(place) & ~set);
                }
            }
        }

        private int ownersBehind(int set, int free) {
            int bits = 0;
            for (int m = 0; m < names; m++) {
                if ((free >> m & 1) == 1 && toGive[set | 1 << m] > 0) {
                    bits |= 1 << m;
                }
            }
            return bits;
        }

        int signsWithOneOwner() {
            int sum = 0;
            for (int place = 0; place < shown && place < MOST_SIGNS; place++) {
                if (Integer.bitCount(owners[place]) == 1) {
                    sum++;
                }
            }
            return sum;
        }

        /** The one who owns a sign in all ways, or NONE. */
        int onlyOwner(int k) {
            int bits = isShown(k) ? owners[placeOf[k]] : 0;
            return Integer.bitCount(bits) == 1 ? Integer.numberOfTrailingZeros(bits) : NONE;
        }
    }
}
