/** The boundary cases of MAPS, PLANS, ODDS and COURSES: promises 36 to 40, and part 5 of the terms. */
final class EdgeMapsTest {
    private static final Check CHECK = new Check("edges of maps");
    private static final int LEAST = Integer.MIN_VALUE, GREATEST = Integer.MAX_VALUE, NONE = IceBoats.NONE;
    private static final int[] NO_ROWS = {-1, 6, NONE, LEAST, GREATEST};
    private static final int[] NO_CELLS = {-1, 64, NONE, LEAST, GREATEST};
    private static final int[] NO_WAYS = {-1, 5, NONE, LEAST, GREATEST};

    public static void main(String[] args) {
        shiftNumbers();
        shiftRows();
        shiftPlaces();
        shortenedMaps();
        shiftsAtTheEnds();
        placesTold();
        mapped();
        planNumbers();
        planSpent();
        planRows();
        planWays();
        planPower();
        planNone();
        oddsNumbers();
        oddsRows();
        oddsAtTheEnds();
        coursesNumbers();
        coursesRows();
        coursesSeen();
        coursesAtTheEnds();
        CHECK.end();
    }

    private static void shiftNumbers() {
        IceBoats x = new IceBoats();
        x.row(0, 16);
        CHECK.sentence(36, "BAD");
        for (int r : NO_ROWS) {
            CHECK.bad(x, "shifts(" + r + ", 0, 1)", () -> x.shifts(r, 0, 1));
            CHECK.bad(x, "shifts(0, " + r + ", 1)", () -> x.shifts(0, r, 1));
            CHECK.bad(x, "shifts(" + r + ", 5, 1): ahead of NOTHING", () -> x.shifts(r, 5, 1));
        }
        CHECK.sentence(36, "at least k (1 .. 16) places");
        for (int k : new int[] {0, -1, 17, NONE, LEAST, GREATEST}) {
            CHECK.bad(x, "k " + k, () -> x.shifts(0, 0, k));
            CHECK.bad(x, "k " + k + ": ahead of NOTHING", () -> x.shifts(0, 5, k));
        }
        CHECK.due("k 1", x.shifts(0, 0, 1), 49);
        CHECK.due("k 16", x.shifts(0, 0, 16), 1);
    }

    private static void shiftRows() {
        IceBoats x = new IceBoats();
        CHECK.sentence(36, "NOTHING: either");
        x.row(0, 16);
        CHECK.found(x, "the other", () -> x.shifts(0, 1, 1), Check.NOTHING);
        CHECK.found(x, "the one", () -> x.shifts(1, 0, 1), Check.NOTHING);
        CHECK.found(x, "both", () -> x.shifts(1, 2, 1), Check.NOTHING);
        CHECK.found(x, "one and itself", () -> x.shifts(1, 1, 1), Check.NOTHING);
        CHECK.sentence(36, "SIZE: not 16");
        for (int n : new int[] {0, 1, 15, 17, 32, 40}) {
            x.row(1, n);
            CHECK.found(x, "the other of " + n, () -> x.shifts(0, 1, 1), Check.SIZE);
            CHECK.found(x, "the one of " + n, () -> x.shifts(1, 0, 1), Check.SIZE);
            CHECK.found(x, "one of " + n + " and itself", () -> x.shifts(1, 1, 1), Check.SIZE);
            CHECK.found(x, "NOTHING ahead of SIZE", () -> x.shifts(1, 2, 1), Check.NOTHING);
            CHECK.found(x, "NOTHING ahead of SIZE", () -> x.shifts(2, 1, 1), Check.NOTHING);
        }
        CHECK.sentence(36, "SIZE goes ahead of UNLIKE");
        CHECK.fill(x, 1, 15, 10);
        CHECK.found(x, "15 wrong numbers", () -> x.shifts(0, 1, 1), Check.SIZE);
        CHECK.fill(x, 0, 16, 10);
        CHECK.found(x, "wrong numbers in the one, a wrong size in the other", () -> x.shifts(0, 1, 1), Check.SIZE);
    }

    private static void shiftPlaces() {
        CHECK.sentence(36, "UNLIKE: a number (0 .. 9, or NONE)");
        for (int i = 0; i < 16; i++) {
            for (int v : new int[] {-1, 10, -8, -10, LEAST, GREATEST}) {
                int place = i;
                IceBoats x = new IceBoats();
                x.row(0, 16);
                x.row(1, 16);
                x.lay(1, place, v);
                CHECK.found(x, v + " at " + i + " of the other", () -> x.shifts(0, 1, 1), Check.UNLIKE);
                CHECK.found(x, v + " at " + i + " of the one", () -> x.shifts(1, 0, 1), Check.UNLIKE);
            }
            IceBoats x = new IceBoats();
            x.row(0, 16);
            x.row(1, 16);
            for (int v : new int[] {0, 9, NONE}) {
                x.lay(1, i, v);
                CHECK.due(v + " at " + i, x.shifts(0, 1, 1) >= 0 ? 1 : 0, 1);
            }
        }
    }

    private static void shortenedMaps() {
        CHECK.sentence(36, "UNLIKE: a number: what stood behind the 16 as the ROW was longer is none of them");
        IceBoats x = new IceBoats();
        CHECK.fill(x, 0, 40, 10);
        x.row(0, 16);
        CHECK.due("16 of 40", x.shifts(0, 0, 16), 1);
    }

    // One place told in each: just one SHIFT leads the first one's to the second one's
    private static void shiftsAtTheEnds() {
        CHECK.sentence(0, "A SHIFT (x, y: -3 .. 3 each): place (i, j) of the first is (i and x, j and y) of the second");
        IceBoats x = new IceBoats();
        CHECK.fill(x, 0, 16, NONE);
        CHECK.fill(x, 1, 16, NONE);
        int[][] runs = {{0, 0, 33}, {0, 15, 66}, {15, 0, 0}, {3, 12, 6}, {12, 3, 60}, {0, 3, 63}, {3, 0, 3}, {0, 12, 36}, {12, 0, 30}, {5, 10, 44},
            {3, 4, 4}, {4, 3, 62}};
        for (int[] run : runs) {
            x.lay(0, run[0], 9);
            x.lay(1, run[1], 9);
            CHECK.due("from " + run[0] + " to " + run[1], x.shifts(0, 1, 1), 1);
            CHECK.due("told", x.asked(), run[2]);
            CHECK.due("with 2 places", x.shifts(0, 1, 2), 0);
            CHECK.due("none", x.asked(), 0);
            x.lay(0, run[0], NONE);
            x.lay(1, run[1], NONE);
        }
        CHECK.sentence(36, "the first one's by asked() (0: none)");
        x.row(2, 16);
        x.shifts(2, 2, 16);
        CHECK.due("told", x.asked(), 33);
        CHECK.due("nothing told by both", x.shifts(0, 1, 1), 0);
        CHECK.due("none", x.asked(), 0);
        CHECK.due("nothing told by one", x.shifts(0, 2, 1), 0);
        CHECK.sentence(0, "In the order of y, then x");
        int[] counts = agreeing();
        for (int k = 1; k <= 16; k++) {
            CHECK.due("all alike, k " + k, x.shifts(2, 2, k), counts[k - 1]);
            CHECK.due("the first, k " + k, x.asked(), first(k));
        }
    }

    // (4 - |x|) (4 - |y|) places lie upon one another
    private static int[] agreeing() {
        int[] counts = new int[16];
        for (int x = -3; x <= 3; x++) {
            for (int y = -3; y <= 3; y++) {
                for (int k = 1; k <= (4 - Math.abs(x)) * (4 - Math.abs(y)); k++) {
                    counts[k - 1]++;
                }
            }
        }
        return counts;
    }

    private static int first(int k) {
        for (int y = 0; y <= 6; y++) {
            for (int x = 0; x <= 6; x++) {
                if ((4 - Math.abs(x - 3)) * (4 - Math.abs(y - 3)) >= k) {
                    return 10 * x + y;
                }
            }
        }
        return 0;
    }

    private static void placesTold() {
        CHECK.sentence(0, "They AGREE, if at least so many places are told by both, and all these are alike");
        IceBoats x = new IceBoats();
        CHECK.row(x, 0, 1, 2, 3, 4, 5, 6, 7, 8, 9, 0, 1, 3, 5, 7, 9, 2);
        CHECK.due("itself, all 16", x.shifts(0, 0, 16), 1);
        CHECK.due("told", x.asked(), 33);
        x.row(1, 16);
        x.copy(0, 0, 1, 0, 16);
        x.lay(1, 15, NONE);
        CHECK.due("15 told by both, 16 wanted", x.shifts(0, 1, 16), 0);
        CHECK.due("15 told by both, 15 wanted", x.shifts(0, 1, 15), 1);
        x.lay(1, 15, 3);
        CHECK.due("one is unlike", x.shifts(0, 1, 15), 0);
        CHECK.due("one is unlike, be 15 alike", x.shifts(0, 1, 13), 0);
    }

    private static void mapped() {
        IceBoats x = new IceBoats();
        CHECK.sentence(37, "BAD: BOATS (bits, 0 .. 63)");
        for (int set : new int[] {-1, 64, 128, NONE, LEAST, GREATEST}) {
            CHECK.bad(x, "mapped(" + set + ")", () -> x.mapped(set));
        }
        CHECK.sentence(37, "How many unlike CELLS LOOKS held by BOATS are of: none");
        CHECK.due("no LOOKS", x.mapped(63), 0);
        CHECK.due("set()", x.set(), 0);
        for (int l = 0; l < 40; l++) {
            x.boat(l % 5, 1, 63 - l, 9);
            x.look(l % 5);
        }
        CHECK.due("no BOATS", x.mapped(0), 0);
        CHECK.due("set()", x.set(), 0);
        CHECK.due("a BOAT that HOLDS none", x.mapped(32), 0);
        CHECK.due("set()", x.set(), 0);
        CHECK.sentence(37, "How many unlike CELLS LOOKS held by BOATS are of: 40 LOOKS");
        CHECK.due("all", x.mapped(63), 40);
        CHECK.due("set()", x.set(), -1L << 24);
        CHECK.due("of one BOAT", x.mapped(1), 8);
        IceBoats y = new IceBoats();
        y.boat(5, 1, 63, 40);
        for (int l = 0; l < 40; l++) {
            y.look(5);
        }
        CHECK.due("40 of one CELL", y.mapped(32), 1);
        CHECK.due("set()", y.set(), LEAST * (1L << 32));
    }

    private static void planNumbers() {
        IceBoats x = new IceBoats();
        CHECK.sentence(38, "BAD: bits (BOATS 1 .. 63; ROWS 0 .. 63)");
        for (int boats : new int[] {0, -1, 64, 128, NONE, LEAST, GREATEST}) {
            CHECK.bad(x, "BOATS " + boats, () -> x.plan(boats, 0));
            CHECK.bad(x, "BOATS " + boats + ": ahead of NOTHING", () -> x.plan(boats, 63));
        }
        for (int set : new int[] {-1, 64, 128, NONE, LEAST, GREATEST}) {
            CHECK.bad(x, "ROWS " + set, () -> x.plan(1, set));
            CHECK.bad(x, "ROWS " + set + ": ahead of SPENT", () -> x.plan(63, set));
        }
    }

    private static void planSpent() {
        IceBoats x = new IceBoats();
        x.row(0, 1);
        CHECK.sentence(38, "SPENT: more than 3 BOATS");
        for (int boats = 1; boats <= 63; boats++) {
            int of = boats;
            if (Integer.bitCount(boats) <= 3) {
                CHECK.due("plan(" + boats + ", 0)", x.plan(boats, 0), 0);
                CHECK.due("plan(" + boats + ", 1)", x.plan(boats, 1), 1);
            } else {
                CHECK.refused(x, "plan(" + boats + ", 0)", () -> x.plan(of, 0), IceBoats.SPENT);
                CHECK.refused(x, "plan(" + boats + ", 2): ahead of NOTHING", () -> x.plan(of, 2), IceBoats.SPENT);
            }
        }
        CHECK.sentence(38, "SPENT goes ahead of SIZE, UNLIKE");
        x.row(1, 0);
        CHECK.row(x, 2, 9);
        CHECK.refused(x, "a ROW of none", () -> x.plan(15, 2), IceBoats.SPENT);
        CHECK.refused(x, "a wrong WAY", () -> x.plan(15, 4), IceBoats.SPENT);
    }

    private static void planRows() {
        CHECK.sentence(38, "NOTHING: a ROW");
        for (int r = 0; r < 6; r++) {
            IceBoats x = new IceBoats();
            for (int other = 0; other < 6; other++) {
                if (other != r) {
                    x.row(other, 1);
                }
            }
            int of = r;
            CHECK.found(x, "ROW " + r + " alone", () -> x.plan(1, 1 << of), Check.NOTHING);
            CHECK.found(x, "ROW " + r + " among all", () -> x.plan(1, 63), Check.NOTHING);
            CHECK.due("the others", x.plan(1, 63 - (1 << r)), 1);
        }
        CHECK.sentence(38, "SIZE: not 1 to 12 WAYS");
        for (int r = 0; r < 6; r++) {
            IceBoats x = new IceBoats();
            int bit = 1 << r;
            for (int n : new int[] {0, 13, 40}) {
                x.row(r, n);
                CHECK.found(x, n + " WAYS in ROW " + r, () -> x.plan(1, bit), Check.SIZE);
            }
            for (int n : new int[] {1, 12}) {
                x.row(r, n);
                CHECK.due(n + " WAYS in ROW " + r, x.plan(1, bit), 1);
                CHECK.due("told", x.asked(), r + 1);
            }
        }
        CHECK.sentence(38, "NOTHING; SIZE; UNLIKE, in this order");
        IceBoats x = new IceBoats();
        x.row(0, 13);
        CHECK.row(x, 2, 5);
        CHECK.found(x, "a size, a missing one", () -> x.plan(1, 3), Check.NOTHING);
        CHECK.found(x, "a missing one, a WAY", () -> x.plan(1, 6), Check.NOTHING);
        CHECK.found(x, "a size, a WAY", () -> x.plan(1, 5), Check.SIZE);
        CHECK.fill(x, 0, 13, 5);
        CHECK.found(x, "13 wrong WAYS", () -> x.plan(1, 1), Check.SIZE);
    }

    private static void planWays() {
        CHECK.sentence(38, "UNLIKE: a WAY");
        for (int i = 0; i < 12; i++) {
            for (int way : NO_WAYS) {
                IceBoats x = new IceBoats();
                x.row(3, 12);
                x.lay(3, i, way);
                CHECK.found(x, "WAY " + way + " at " + i, () -> x.plan(1, 8), Check.UNLIKE);
            }
        }
        CHECK.sentence(0, "CELLS come to by WAYS (without CURRENTS), with the first one: at the edge, before ROCK");
        IceBoats x = new IceBoats();
        for (int c = 0; c < 64; c++) {
            x.cell(c, 4, 1, 0);
        }
        CHECK.row(x, 0, 1, 2, 1, 2);
        CHECK.due("it stays in the corner", x.plan(1, 1), 1);
        CHECK.row(x, 1, 3, 3, 3, 3, 3, 3, 3, 3, 3, 3, 3, 3);
        CHECK.due("it comes to the edge", x.plan(1, 2), 8);
        x.rock(3, true);
        CHECK.due("it comes to the ROCK", x.plan(1, 2), 3);
        CHECK.row(x, 2, 0);
        CHECK.due("the first CELL alone", x.plan(1, 4), 1);
    }

    private static void planPower() {
        CHECK.sentence(0, "with POWER enough (2 for each WAY that is not 0)");
        IceBoats x = new IceBoats();
        CHECK.row(x, 0, 3, 3, 3, 4, 4, 4, 2, 2, 2, 1, 1, 3);
        x.boat(0, 0, 0, 24);
        CHECK.due("24 for 12 WAYS to 12 other CELLS", x.plan(1, 1), 13);
        x.boat(0, 0, 0, 23);
        CHECK.due("23 for 12 WAYS", x.plan(1, 1), 0);
        CHECK.due("none", x.asked(), 0);
        CHECK.row(x, 0, 0, 0, 0, 3);
        x.boat(0, 0, 0, 2);
        CHECK.due("2 for one of 4", x.plan(1, 1), 2);
        x.boat(0, 0, 0, 1);
        CHECK.due("1 for one of 4", x.plan(1, 1), 0);
        CHECK.row(x, 0, 0, 0, 0, 0);
        x.boat(0, 0, 0, 0);
        CHECK.due("none for WAYS 0", x.plan(1, 1), 1);
        CHECK.due("told", x.asked(), 1);
        CHECK.sentence(0, "2 for each WAY that is not 0, be it that it does not lead on");
        CHECK.row(x, 0, 1, 2);
        x.boat(0, 0, 0, 3);
        CHECK.due("3 in the corner", x.plan(1, 1), 0);
        x.boat(0, 0, 0, 4);
        CHECK.due("4 in the corner", x.plan(1, 1), 1);
        CHECK.sentence(38, "a plan changes nothing but what is told");
        long before = x.digest();
        x.plan(1, 1);
        CHECK.due("digest()", x.digest(), before);
    }

    private static void planNone() {
        CHECK.sentence(0, "each BOAT one of the told ROWS, or none: no ROWS");
        IceBoats x = new IceBoats();
        for (int boats : new int[] {1, 32, 7, 56}) {
            CHECK.due("plan(" + boats + ", 0)", x.plan(boats, 0), 0);
            CHECK.due("none goes", x.asked(), 0);
        }
        CHECK.sentence(0, "the first by BOATS (none ahead, then by ROWS' numbers)");
        for (int r = 0; r < 6; r++) {
            CHECK.row(x, r, 3);
        }
        CHECK.due("all alike: one goes", x.plan(7, 63), 2);
        CHECK.due("the last BOAT by the first ROW", x.asked(), 100);
        CHECK.due("the last ROW alone", x.plan(56, 32), 2);
        CHECK.due("the last BOAT", x.asked(), 600);
        CHECK.due("one BOAT", x.plan(32, 62), 2);
        CHECK.due("the first of these ROWS", x.asked(), 2);
        for (int b = 3; b < 6; b++) {
            x.boat(b, 0, 16 * (b - 2), 9);
        }
        CHECK.due("all go", x.plan(56, 32), 6);
        CHECK.due("the greatest that can be told", x.asked(), 666);
        CHECK.row(x, 5, 3, 3);
        CHECK.due("all go by the longest", x.plan(56, 63), 9);
        CHECK.due("told", x.asked(), 666);
        CHECK.sentence(0, "each BOAT one of the told ROWS: not two, be others without POWER");
        CHECK.row(x, 0, 3, 3, 3);
        CHECK.row(x, 1, 4, 4, 4);
        int[] tens = {1, 10, 100};
        for (int able = 0; able < 3; able++) {
            for (int b = 0; b < 3; b++) {
                x.boat(b, 0, 0, b == able ? 100 : 0);
            }
            CHECK.due("just BOAT " + able + " goes", x.plan(7, 3), 4);
            CHECK.due("by the first ROW", x.asked(), tens[able]);
        }
    }

    private static void share(IceBoats x, String what, int done, long upper, long lower) {
        CHECK.due(what, done, 1);
        CHECK.due(what + ", upper()", x.upper(), upper);
        CHECK.due(what + ", lower()", x.lower(), lower);
    }

    private static void oddsNumbers() {
        IceBoats x = new IceBoats();
        x.row(0, 1);
        CHECK.sentence(39, "BAD");
        for (int c : NO_CELLS) {
            CHECK.bad(x, "odds(" + c + ", 0)", () -> x.odds(c, 0));
            CHECK.bad(x, "odds(" + c + ", 1): ahead of NOTHING", () -> x.odds(c, 1));
        }
        for (int r : NO_ROWS) {
            CHECK.bad(x, "odds(0, " + r + ")", () -> x.odds(0, r));
        }
        CHECK.sentence(39, "BAD: also ROCK");
        x.rock(63, true);
        CHECK.bad(x, "from ROCK", () -> x.odds(63, 0));
        CHECK.bad(x, "from ROCK: ahead of NOTHING", () -> x.odds(63, 1));
        x.rock(63, false);
        CHECK.due("ROCK no more", x.odds(63, 0), 1);
    }

    private static void oddsRows() {
        IceBoats x = new IceBoats();
        CHECK.sentence(39, "NOTHING; SIZE; UNLIKE");
        for (int r = 0; r < 6; r++) {
            int of = r;
            CHECK.found(x, "missing: " + r, () -> x.odds(0, of), Check.NOTHING);
        }
        CHECK.sentence(39, "SIZE: a ROW of WAYS (1 .. 8)");
        for (int n : new int[] {0, 9, 40}) {
            CHECK.fill(x, 0, n, 5);
            CHECK.found(x, n + " WAYS, all wrong", () -> x.odds(0, 0), Check.SIZE);
        }
        for (int n = 1; n <= 8; n++) {
            x.row(0, n);
            share(x, n + " WAYS", x.odds(0, 0), 1, 1);
        }
        CHECK.sentence(39, "UNLIKE: a WAY");
        for (int i = 0; i < 8; i++) {
            for (int way : NO_WAYS) {
                x.row(0, 8);
                x.lay(0, i, way);
                CHECK.found(x, "WAY " + way + " at " + i, () -> x.odds(0, 0), Check.UNLIKE);
            }
        }
    }

    private static void oddsAtTheEnds() {
        IceBoats x = new IceBoats();
        CHECK.sentence(0, "Fractions in lowest terms, the lower number above 0 (0 by 1)");
        x.cell(0, 3, 1, 0);
        for (int n = 1; n <= 8; n++) {
            x.row(0, n);
            x.hole(0);
            share(x, "never carried of " + n, x.odds(0, 0), 1, 1L << 2 * n);
            x.hole(1);
            share(x, "carried once of " + n, x.odds(0, 0), (1L << 2 * n) - 1, 1L << 2 * n);
            x.hole(2);
            share(x, "there it never comes, of " + n, x.odds(0, 0), 0, 1);
        }
        CHECK.sentence(0, "the CURRENT carries by 3 in 4 each time");
        for (int c = 0; c < 8; c++) {
            x.cell(c, 3, 1, 0);
        }
        x.row(0, 7);
        x.hole(7);
        share(x, "7 of 7", x.odds(0, 0), 2187, 16384);
        x.cell(7, 4, 1, 0);
        x.row(0, 8);
        x.hole(15);
        share(x, "8 of 8", x.odds(0, 0), 6561, 65536);
        x.hole(7);
        share(x, "7 of 8, lowest terms", x.odds(0, 0), 2187, 8192);
        CHECK.sentence(0, "a CURRENT at the edge, before ROCK: it ends there, carried or not");
        x.cell(63, 4, 1, 0);
        x.hole(63);
        share(x, "at the edge", x.odds(63, 0), 1, 1);
        x.cell(62, 1, 1, 0);
        x.rock(54, true);
        x.hole(62);
        share(x, "before ROCK", x.odds(62, 0), 1, 1);
    }

    private static void coursesNumbers() {
        IceBoats x = new IceBoats();
        x.row(0, 1);
        x.row(1, 0);
        CHECK.sentence(40, "BAD");
        for (int c : NO_CELLS) {
            CHECK.bad(x, "courses(" + c + ", 0, 1)", () -> x.courses(c, 0, 1));
            CHECK.bad(x, "courses(" + c + ", 5, 5): ahead of NOTHING", () -> x.courses(c, 5, 5));
        }
        for (int r : NO_ROWS) {
            CHECK.bad(x, "courses(0, " + r + ", 1)", () -> x.courses(0, r, 1));
            CHECK.bad(x, "courses(0, 0, " + r + ")", () -> x.courses(0, 0, r));
            CHECK.bad(x, "courses(0, 5, " + r + "): ahead of NOTHING", () -> x.courses(0, 5, r));
        }
        CHECK.sentence(40, "BAD: also ROCK");
        x.rock(63, true);
        CHECK.bad(x, "from ROCK", () -> x.courses(63, 0, 1));
        CHECK.bad(x, "from ROCK: ahead of NOTHING", () -> x.courses(63, 5, 1));
        x.rock(63, false);
        CHECK.due("ROCK no more", x.courses(63, 0, 1), 2);
    }

    private static void coursesRows() {
        IceBoats x = new IceBoats();
        x.row(0, 1);
        CHECK.sentence(40, "NOTHING: either");
        CHECK.found(x, "what was seen", () -> x.courses(0, 0, 1), Check.NOTHING);
        CHECK.found(x, "WAYS", () -> x.courses(0, 1, 0), Check.NOTHING);
        CHECK.found(x, "both", () -> x.courses(0, 1, 2), Check.NOTHING);
        x.row(3, 11);
        CHECK.found(x, "ahead of SIZE of WAYS", () -> x.courses(0, 3, 1), Check.NOTHING);
        CHECK.found(x, "ahead of SIZE of what was seen", () -> x.courses(0, 1, 3), Check.NOTHING);
        CHECK.sentence(40, "SIZE: WAYS (1 .. 10)");
        x.row(1, 0);
        for (int n : new int[] {0, 11, 40}) {
            CHECK.fill(x, 0, n, 5);
            CHECK.found(x, n + " WAYS, all wrong", () -> x.courses(0, 0, 1), Check.SIZE);
        }
        for (int n = 1; n <= 10; n++) {
            x.row(0, n);
            CHECK.due(n + " WAYS", x.courses(0, 0, 1), 1 << n);
        }
        CHECK.sentence(40, "SIZE: what was seen not by twos");
        for (int n : new int[] {1, 3, 15, 39}) {
            CHECK.fill(x, 1, n, -5);
            CHECK.found(x, n + " places, all wrong", () -> x.courses(0, 0, 1), Check.SIZE);
        }
        CHECK.sentence(40, "what was seen by twos: none, and twenty");
        x.row(1, 0);
        CHECK.due("none", x.courses(0, 0, 1), 1024);
        x.row(1, 40);
        for (int i = 0; i < 40; i += 2) {
            x.lay(1, i, 1 + i / 2 % 10);
        }
        CHECK.due("twenty", x.courses(0, 0, 1), 1024);
        x.lay(1, 39, 1);
        CHECK.due("the last is not so", x.courses(0, 0, 1), 0);
        CHECK.sentence(40, "UNLIKE: a WAY");
        x.row(1, 0);
        for (int i = 0; i < 10; i++) {
            for (int way : NO_WAYS) {
                x.row(0, 10);
                x.lay(0, i, way);
                CHECK.found(x, "WAY " + way + " at " + i, () -> x.courses(0, 0, 1), Check.UNLIKE);
            }
        }
    }

    private static void coursesSeen() {
        IceBoats x = new IceBoats();
        x.row(0, 3);
        CHECK.sentence(40, "UNLIKE: a CELL");
        for (int c : NO_CELLS) {
            CHECK.row(x, 1, 1, c);
            CHECK.found(x, "CELL " + c, () -> x.courses(0, 0, 1), Check.UNLIKE);
            CHECK.row(x, 1, 1, 0, 2, 0, 3, c);
            CHECK.found(x, "CELL " + c + " at last", () -> x.courses(0, 0, 1), Check.UNLIKE);
        }
        CHECK.sentence(40, "UNLIKE: behind which (1 .. as many as WAYS)");
        for (int n : new int[] {1, 3, 10}) {
            x.row(0, n);
            for (int behind : new int[] {0, -1, n + 1, LEAST, GREATEST}) {
                CHECK.row(x, 1, behind, 0);
                CHECK.found(x, "behind " + behind + " of " + n, () -> x.courses(0, 0, 1), Check.UNLIKE);
                CHECK.row(x, 1, 1, 0, behind, 0);
                CHECK.found(x, "behind " + behind + " of " + n + " at last", () -> x.courses(0, 0, 1), Check.UNLIKE);
            }
            CHECK.row(x, 1, 1, 0);
            CHECK.due("behind 1 of " + n, x.courses(0, 0, 1), 1 << n);
            CHECK.row(x, 1, n, 0);
            CHECK.due("behind " + n + " of " + n, x.courses(0, 0, 1), 1 << n);
        }
        CHECK.sentence(40, "a CELL: the first, the last, one that is ROCK");
        CHECK.row(x, 1, 1, 63);
        CHECK.due("the last CELL", x.courses(63, 0, 1), 1024);
        x.rock(62, true);
        CHECK.row(x, 1, 1, 62);
        CHECK.due("ROCK", x.courses(63, 0, 1), 0);
        CHECK.due("none", x.asked(), 0);
    }

    private static void coursesAtTheEnds() {
        IceBoats x = new IceBoats();
        CHECK.sentence(40, "the LEAST ODD one's bits (the first WAY highest; 1 not carried) by asked() (0: none)");
        x.cell(27, 3, 1, 0);
        for (int n = 1; n <= 10; n++) {
            x.row(0, n);
            CHECK.row(x, 1, n, 27);
            CHECK.due("never carried of " + n, x.courses(27, 0, 1), 1);
            CHECK.due("all bits", x.asked(), (1 << n) - 1);
            CHECK.row(x, 1, n, 28);
            CHECK.due("carried away, of " + n, x.courses(27, 0, 1), (1 << n) - 1);
            CHECK.due("all carried", x.asked(), 0);
            CHECK.row(x, 1, n, 29);
            CHECK.due("there it never comes", x.courses(27, 0, 1), 0);
            CHECK.due("none", x.asked(), 0);
        }
        CHECK.sentence(40, "the LEAST ODD one's bits, where it ends in the first CELL, in the last one");
        for (int c : new int[] {0, 63}) {
            IceBoats y = new IceBoats();
            y.cell(c, c == 0 ? 3 : 2, 1, 0);
            y.row(0, 4);
            CHECK.row(y, 1, 4, c);
            CHECK.due("never carried from " + c, y.courses(c, 0, 1), 1);
            CHECK.due("all bits", y.asked(), 15);
        }
        CHECK.sentence(0, "of these that with the fewest not carried, of alike ones the first (not carried as 1, the first WAY highest)");
        for (int c = 0; c < 7; c++) {
            x.cell(c, 3, 1, 0);
        }
        for (int n = 2; n <= 6; n++) {
            x.row(0, n);
            CHECK.row(x, 1, n, n - 1);
            CHECK.due("one not carried of " + n, x.courses(0, 0, 1), n);
            CHECK.due("the last one", x.asked(), 1);
            CHECK.row(x, 1, n, n - 1, 1, 0);
            CHECK.due("the first was not", x.courses(0, 0, 1), 1);
            CHECK.due("the first one", x.asked(), 1 << n - 1);
        }
    }
}
