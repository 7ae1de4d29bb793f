import java.util.Arrays;

/** Along the document: part 5 of the terms, and promises 36 to 40. */
final class DocMapsTest {
    private static final Check CHECK = new Check("the document: maps, plans, odds, courses");
    private static final int NONE = IceBoats.NONE;

    public static void main(String[] args) {
        oneShift();
        shiftsInOrder();
        agreeing();
        shiftsTold();
        mapped();
        planCells();
        planChoices();
        planOfEachKind();
        planTold();
        oddsByHand();
        oddsByAllRows();
        oddsTold();
        coursesByHand();
        coursesByAllRows();
        leastOddOfTwoEnds();
        coursesTold();
        CHECK.end();
    }

    private static int[] none16() {
        int[] map = new int[16];
        Arrays.fill(map, NONE);
        return map;
    }

    private static void oneShift() {
        CHECK.quote(0, "two ROWS of 16 (4 by 4: place (i, j) is number 4 j + i; 0 .. 9, or NONE). A SHIFT (x, y: -3 .. 3 each): place (i, j) of the first is (i and x, j and y) of the second.");
        for (int from = 0; from < 16; from++) {
            for (int to = 0; to < 16; to++) {
                IceBoats x = new IceBoats();
                int[] first = none16();
                int[] second = none16();
                first[from] = from % 10;
                second[to] = from % 10;
                CHECK.row(x, 0, first);
                CHECK.row(x, 1, second);
                CHECK.due(from + " is " + to, x.shifts(0, 1, 1), 1);
                CHECK.due(from + " is " + to + ", told", x.asked(), 10 * (to % 4 - from % 4 + 3) + to / 4 - from / 4 + 3);
                CHECK.due("not by two places", x.shifts(0, 1, 2), 0);
            }
        }
    }

    private static void shiftsInOrder() {
        CHECK.quote(0, "In the order of y, then x.");
        // one place of the first is told; the second has that number in two places
        for (int one = 0; one < 16; one++) {
            for (int other = one + 1; other < 16; other++) {
                IceBoats x = new IceBoats();
                int[] first = none16();
                int[] second = none16();
                first[5] = 7;
                second[one] = 7;
                second[other] = 7;
                CHECK.row(x, 2, first);
                CHECK.row(x, 3, second);
                CHECK.due("two", x.shifts(2, 3, 1), 2);
                // the lesser number has the lesser y, or the same and the lesser x
                CHECK.due("the first one", x.asked(), 10 * (one % 4 - 1 + 3) + one / 4 - 1 + 3);
            }
        }
        IceBoats x = new IceBoats();
        CHECK.fill(x, 0, 16, 4);
        CHECK.due("all of them", x.shifts(0, 0, 1), 49);
        CHECK.due("the first", x.asked(), 0);
        for (int k = 1; k <= 16; k++) {
            int due = 0;
            for (int dx = -3; dx <= 3; dx++) {
                for (int dy = -3; dy <= 3; dy++) {
                    due += (4 - Math.abs(dx)) * (4 - Math.abs(dy)) >= k ? 1 : 0;
                }
            }
            CHECK.due("with at least " + k, x.shifts(0, 0, k), due);
        }
    }

    private static void agreeing() {
        CHECK.quote(0, "They AGREE, if at least so many places are told by both, and all these are alike.");
        IceBoats x = new IceBoats();
        int[] first = none16();
        int[] second = none16();
        first[0] = 1;
        first[1] = 2;
        first[2] = 3;
        second[0] = 1;
        second[1] = 2;
        second[2] = 4;
        CHECK.row(x, 0, first);
        CHECK.row(x, 1, second);
        CHECK.due("two alike, one unlike: no SHIFT", x.shifts(0, 1, 2), 0);
        second[2] = NONE;
        CHECK.row(x, 1, second);
        CHECK.due("two alike, one told by one alone", x.shifts(0, 1, 2), 1);
        CHECK.due("by (0, 0)", x.asked(), 33);
        CHECK.due("not three", x.shifts(0, 1, 3), 0);
        int[] empty = none16();
        CHECK.row(x, 2, empty);
        CHECK.due("nothing is told by both", x.shifts(2, 2, 1), 0);
        CHECK.due("nor by one", x.shifts(0, 2, 1), 0);
        CHECK.due("the other way around", x.shifts(1, 0, 2), 1);
    }

    private static void shiftsTold() {
        CHECK.quote(36, "the first one's 10 times (x and 3), and (y and 3), by asked() (0: none).");
        IceBoats x = new IceBoats();
        CHECK.fill(x, 0, 16, 4);
        CHECK.fill(x, 1, 16, 5);
        x.told(0, 2);
        CHECK.due("none", x.shifts(0, 1, 1), 0);
        CHECK.due("asked() is 0", x.asked(), 0);
        x.could(0);
        x.shifts(0, 0, 16);
        CHECK.due("set() stays", x.set(), 1);
        CHECK.due("(0, 0)", x.asked(), 33);
    }

    private static void mapped() {
        CHECK.quote(37, "How many unlike CELLS LOOKS held by BOATS (bits, 0 .. 63) are of; by set().");
        IceBoats x = new IceBoats();
        int[] cells = {9, 9, 40, 63, 0, 40};
        for (int b = 0; b < 6; b++) {
            x.boat(b, 0, cells[b], 100);
            x.look(b);
            x.look(b);
        }
        for (int set = 0; set < 64; set++) {
            long due = 0;
            for (int b = 0; b < 6; b++) {
                due |= (set >> b & 1) == 1 ? 1L << cells[b] : 0;
            }
            CHECK.due("mapped(" + set + ")", x.mapped(set), Long.bitCount(due));
            CHECK.due("set()", x.set(), due);
        }
        // the CELL of the LOOK, not where the BOAT is now; each LOOK once, be it held by two
        x.boat(0, 0, 8, 100);
        x.say(1, 2, 1);
        x.tick();
        CHECK.due("held by two", x.mapped(3), 1);
        CHECK.due("set()", x.set(), Fleet.cells(9));
        x.rock(9, false);
        x.boat(1, 0, 8, 0);
        x.tick();
        CHECK.due("held by a DEAD one", x.mapped(2), 1);
    }

    private static void planCells() {
        CHECK.quote(0, "CELLS come to by WAYS (without CURRENTS), with the first one.");
        IceBoats x = Fleet.only(27);
        Fleet.currents(x, 4);
        CHECK.row(x, 0, 3, 3, 2, 1);
        CHECK.due("27, 28, 29, 28, 20", x.plan(1, 1), 4);
        CHECK.due("by ROW 0", x.asked(), 1);
        CHECK.row(x, 0, 0);
        CHECK.due("27", x.plan(1, 1), 1);
        x.rock(28, true);
        CHECK.row(x, 0, 3, 4);
        CHECK.due("27, not 28, 35", x.plan(1, 1), 2);
        CHECK.row(x, 0, 3, 3, 3, 3, 3, 3, 3, 3, 3, 3, 3, 3);
        CHECK.due("27 alone", x.plan(1, 1), 1);
        x.boat(0, 0, 32, 24);
        CHECK.due("32 to 39", x.plan(1, 1), 8);
        // it goes from where it is, not from where it COULD be
        IceBoats y = Fleet.only(3);
        y.cell(3, 4, 1, 0);
        y.seed(Fleet.seedFor("1"));
        y.tick();
        CHECK.due("COULD", Fleet.could(y, 0), Fleet.cells(3, 11));
        CHECK.row(y, 0, 1, 1);
        CHECK.due("11, 3", y.plan(1, 1), 2);
    }

    private static void planChoices() {
        CHECK.quote(0, "PLAN: of all choices (each BOAT one of the told ROWS, or none) with POWER enough (2 for each WAY that is not 0) that in which most CELLS are come to by any; the first by BOATS (none ahead, then by ROWS' numbers).");
        IceBoats x = Fleet.only(0, 32, 56);
        CHECK.row(x, 1, 3, 3);
        CHECK.row(x, 4, 3, 3);
        CHECK.due("all by the first of two alike", x.plan(7, 18), 9);
        CHECK.due("ROW 1 for each", x.asked(), 222);
        CHECK.due("all by the one told", x.plan(7, 16), 9);
        CHECK.due("ROW 4 for each", x.asked(), 555);
        x.boat(1, 0, 32, 3);
        CHECK.due("BOAT 1 has not enough", x.plan(7, 18), 6);
        CHECK.due("none for the second", x.asked(), 202);
        CHECK.row(x, 4, 0, 3, 0);
        CHECK.due("WAY 0 takes none", x.plan(7, 18), 8);
        CHECK.due("ROW 4 for the second", x.asked(), 252);
        // two in one CELL by the same ROW: one of them is enough, and none goes ahead
        IceBoats y = Fleet.only(9, 9);
        CHECK.row(y, 0, 3);
        CHECK.due("one goes", y.plan(3, 1), 2);
        CHECK.due("the second, since none goes ahead for the first", y.asked(), 10);
        CHECK.row(y, 2, 4);
        CHECK.due("both go, by two ROWS", y.plan(3, 5), 3);
        CHECK.due("ROW 0 for the first", y.asked(), 31);
        // the numbers of BOATS that are not told take no place
        IceBoats z = new IceBoats();
        for (int b = 0; b < 6; b++) {
            z.boat(b, 0, 8 * b, 100);
        }
        CHECK.row(z, 0, 3);
        CHECK.row(z, 5, 3, 3);
        z.boat(4, 0, 32, 2);
        CHECK.due("BOATS 1, 4, 5", z.plan(50, 33), 8);
        CHECK.due("6 for 1, 1 for 4, 6 for 5", z.asked(), 616);
        CHECK.due("BOAT 4 alone", z.plan(16, 33), 2);
        CHECK.due("ROW 0", z.asked(), 1);
        CHECK.due("BOATS 4, 5", z.plan(48, 33), 5);
        CHECK.due("1 for 4, 6 for 5", z.asked(), 61);
        CHECK.due("no ROWS", z.plan(7, 0), 0);
        CHECK.due("none", z.asked(), 0);
    }

    private static void planOfEachKind() {
        CHECK.quote(38, "PLAN of BOATS (bits, 1 .. 63; 3 at most) by ROWS (bits, 0 .. 63): how many CELLS");
        for (int kind = 0; kind <= Fleet.HOME; kind++) {
            IceBoats x = Fleet.ofKind(kind, 9, 50);
            CHECK.row(x, 0, 3, 3);
            CHECK.row(x, 1, 0);
            CHECK.due("of a " + kind, x.plan(1, 1), kind == Fleet.DEAD ? 0 : 3);
            CHECK.due("of a " + kind + " that stays", x.plan(1, 2), 1);
        }
    }

    private static void planTold() {
        CHECK.quote(38, "who goes which way by asked() (for the first BOAT 0, or the ROW and 1; 10 times that for the second, 100 times for the third).");
        IceBoats x = Fleet.only(0, 16, 32);
        CHECK.row(x, 5, 3);
        x.could(0);
        long could = x.set();
        CHECK.due("three", x.plan(7, 32), 6);
        CHECK.due("ROW 5 for each", x.asked(), 666);
        CHECK.due("set() stays", x.set(), could);
        CHECK.due("upper() stays", x.upper(), 0);
        CHECK.due("lower() stays", x.lower(), 1);
        for (int b = 0; b < 3; b++) {
            CHECK.due("POWER stays", Fleet.power(x, b), 100);
        }
        x.tick();
        for (int b = 0; b < 3; b++) {
            CHECK.due("none goes by a PLAN", Fleet.cell(x, b), 16 * b);
        }
    }

    private static void share(IceBoats x, int c, int r, long upper, long lower) {
        CHECK.due("odds(" + c + ", " + r + ")", x.odds(c, r), 1);
        CHECK.due("upper()", x.upper(), upper);
        CHECK.due("lower()", x.lower(), lower);
    }

    private static void oddsByHand() {
        CHECK.quote(0, "ODDS home: a ROW of WAYS (1 .. 8) from a CELL: the CURRENT carries by 3 in 4 each time: the share of ends in THE HOLE.");
        IceBoats x = new IceBoats();
        CHECK.row(x, 0, 0);
        share(x, 0, 0, 1, 1);
        share(x, 1, 0, 0, 1);
        x.cell(0, 3, 1, 0);
        share(x, 0, 0, 1, 4);
        x.hole(1);
        share(x, 0, 0, 3, 4);
        CHECK.row(x, 0, 0, 0);
        // 0 stays by 1 in 4 each time; from 1, without a CURRENT, it does not go on
        share(x, 0, 0, 15, 16);
        CHECK.row(x, 0, 3, 2);
        share(x, 0, 0, 3, 4);
        // it is in THE HOLE on its way, but does not end there
        CHECK.row(x, 0, 3, 3);
        share(x, 0, 0, 0, 1);
        x.hole(2);
        share(x, 0, 0, 1, 1);
        // a CURRENT that leads nowhere: carried or not, it is there
        x.cell(2, 1, 1, 0);
        share(x, 0, 0, 1, 1);
        x.cell(2, 4, 1, 0);
        share(x, 0, 0, 1, 4);
        x.rock(10, true);
        share(x, 0, 0, 1, 1);
    }

    // All rows of carried or not, one by one.
    private static void oddsByAllRows() {
        CHECK.quote(0, "the CURRENT carries by 3 in 4 each time");
        java.util.Random random = new java.util.Random(11);
        for (int round = 0; round < 60; round++) {
            IceBoats x = new IceBoats();
            int[] current = wildSea(x, random);
            int[] ways = wildWays(random, 8);
            CHECK.row(x, 0, ways);
            long upper = 0;
            long lower = 1L << 2 * ways.length;
            int from = noRock(random, current);
            int any = random.nextInt(1 << ways.length);
            int home = round % 2 == 0 ? ends(current, ways, from, any)[ways.length - 1] : noRock(random, current);
            x.hole(home);
            for (int row = 0; row < 1 << ways.length; row++) {
                int[] ends = ends(current, ways, from, row);
                long weight = 1;
                for (int i = 0; i < ways.length; i++) {
                    weight *= (row >> ways.length - 1 - i & 1) == 1 ? 1 : 3;
                }
                upper += ends[ways.length - 1] == home ? weight : 0;
            }
            long common = upper == 0 ? lower : gcd(upper, lower);
            share(x, from, 0, upper / common, lower / common);
        }
    }

    // CURRENTS of all CELLS; -1: ROCK. THE HOLE and all BOATS are in CELL 0.
    private static int[] wildSea(IceBoats x, java.util.Random random) {
        int[] current = new int[64];
        for (int c = 0; c < 64; c++) {
            current[c] = random.nextInt(5);
            x.cell(c, current[c], 1, 0);
            if (c > 0 && random.nextInt(6) == 0) {
                current[c] = -1;
                x.rock(c, true);
            }
        }
        return current;
    }

    private static int noRock(java.util.Random random, int[] current) {
        int c = random.nextInt(64);
        while (current[c] < 0) {
            c = random.nextInt(64);
        }
        return c;
    }

    private static int[] wildWays(java.util.Random random, int most) {
        int[] ways = new int[1 + random.nextInt(most)];
        for (int i = 0; i < ways.length; i++) {
            ways[i] = random.nextInt(5);
        }
        return ways;
    }

    private static long gcd(long a, long b) {
        return b == 0 ? a : gcd(b, a % b);
    }

    // Where it is behind each WAY, by a row of bits (1: not carried; the first WAY's is the highest).
    private static int[] ends(int[] current, int[] ways, int from, int row) {
        int[] ends = new int[ways.length];
        int at = from;
        for (int i = 0; i < ways.length; i++) {
            at = led(current, at, ways[i]);
            if ((row >> ways.length - 1 - i & 1) == 0) {
                at = led(current, at, current[at]);
            }
            ends[i] = at;
        }
        return ends;
    }

    private static int led(int[] current, int c, int way) {
        int to = next(c, way);
        return current[to] < 0 ? c : to;
    }

    private static int next(int c, int way) {
        switch (way) {
            case 1: return c < 8 ? c : c - 8;
            case 2: return c % 8 == 0 ? c : c - 1;
            case 3: return c % 8 == 7 ? c : c + 1;
            case 4: return c > 55 ? c : c + 8;
            default: return c;
        }
    }

    private static void oddsTold() {
        CHECK.quote(39, "ODDS home, told by upper(), lower(): 1.");
        IceBoats x = new IceBoats();
        CHECK.row(x, 0, 0);
        x.told(3, 2);
        x.could(3);
        share(x, 5, 0, 0, 1);
        CHECK.due("asked() stays", x.asked(), 100);
        CHECK.due("set() stays", x.set(), 1);
        // BOATS, their POWER, and what they were told are not looked at
        x.boat(0, 0, 0, 0);
        CHECK.row(x, 0, 3, 2);
        share(x, 0, 0, 1, 1);
        // once told it stays until the next is told
        x.cell(0, 3, 1, 0);
        share(x, 0, 0, 1, 4);
        x.tick();
        CHECK.due("upper()", x.upper(), 1);
        CHECK.due("lower()", x.lower(), 4);
    }

    private static void course(IceBoats x, int c, int many, int bits) {
        CHECK.due("courses(" + c + ")", x.courses(c, 0, 1), many);
        CHECK.due("asked()", x.asked(), bits);
    }

    private static void coursesByHand() {
        CHECK.quote(0, "a ROW of WAYS (1 .. 10) from a CELL and a ROW of what was seen (pairs: behind which WAY, 1 on; CELL): of all rows of carried or not (each WAY) those that lead to what was seen.");
        IceBoats x = new IceBoats();
        x.cell(1, 3, 1, 0);
        CHECK.row(x, 0, 3);
        x.row(1, 0);
        course(x, 0, 2, 0);
        CHECK.row(x, 1, 1, 2);
        course(x, 0, 1, 0);
        CHECK.row(x, 1, 1, 1);
        course(x, 0, 1, 1);
        CHECK.row(x, 1, 1, 0);
        course(x, 0, 0, 0);
        CHECK.row(x, 1, 1, 1, 1, 2);
        course(x, 0, 0, 0);
        CHECK.row(x, 1, 1, 1, 1, 1);
        course(x, 0, 1, 1);
        // without a CURRENT each of both leads there
        CHECK.row(x, 0, 4);
        CHECK.row(x, 1, 1, 8);
        course(x, 0, 2, 0);
        CHECK.quote(0, "LEAST ODD: of these that with the fewest not carried, of alike ones the first (not carried as 1, the first WAY highest).");
        CHECK.row(x, 0, 0, 0, 0);
        Fleet.currents(x, 3);
        CHECK.row(x, 1, 3, 2);
        course(x, 0, 3, 1);
        CHECK.row(x, 1, 3, 1);
        course(x, 0, 3, 3);
        CHECK.row(x, 1, 3, 2, 1, 0);
        course(x, 0, 1, 4);
        CHECK.row(x, 1, 3, 2, 2, 1);
        course(x, 0, 2, 2);
    }

    private static void coursesByAllRows() {
        CHECK.quote(40, "How many COURSES; the LEAST ODD one's bits (the first WAY highest; 1 not carried) by asked() (0: none).");
        java.util.Random random = new java.util.Random(12);
        for (int round = 0; round < 120; round++) {
            IceBoats x = new IceBoats();
            int[] current = wildSea(x, random);
            int[] ways = wildWays(random, 10);
            int from = noRock(random, current);
            int[] truth = ends(current, ways, from, random.nextInt(1 << ways.length));
            int[] seen = new int[2 * random.nextInt(4)];
            for (int i = 0; i < seen.length; i += 2) {
                seen[i] = 1 + random.nextInt(ways.length);
                seen[i + 1] = random.nextInt(8) == 0 ? random.nextInt(64) : truth[seen[i] - 1];
            }
            CHECK.row(x, 0, ways);
            CHECK.row(x, 1, seen);
            int many = 0;
            int least = -1;
            for (int row = 0; row < 1 << ways.length; row++) {
                int[] ends = ends(current, ways, from, row);
                boolean led = true;
                for (int i = 0; i < seen.length; i += 2) {
                    led &= ends[seen[i] - 1] == seen[i + 1];
                }
                many += led ? 1 : 0;
                if (led && (least < 0 || Integer.bitCount(row) < Integer.bitCount(least))) {
                    least = row;
                }
            }
            course(x, from, many, Math.max(least, 0));
        }
    }

    // Of two ends the one with fewer not carried counts, be its bits the greater ones.
    private static void leastOddOfTwoEnds() {
        CHECK.quote(0, "LEAST ODD: of these that with the fewest not carried");
        IceBoats x = new IceBoats();
        x.cell(0, 3, 1, 0);
        x.cell(1, 3, 1, 0);
        x.cell(2, 1, 1, 0);
        CHECK.row(x, 0, 0, 0);
        x.row(1, 0);
        course(x, 0, 4, 0);
        // behind the second WAY it is in 1 by just one not carried
        CHECK.row(x, 0, 0, 0, 0);
        Fleet.currents(x, 3);
        x.cell(2, 4, 1, 0);
        x.cell(1, 3, 1, 0);
        CHECK.row(x, 1, 2, 1);
        // 01x and 10x: then carried or not: ends in 2 (carried) or 1 (not carried)
        course(x, 0, 4, 2);
        // behind the first WAY it stayed in 0: 1xx, the least odd is 100, to an end of a greater CELL than 111's
        CHECK.row(x, 1, 1, 0);
        course(x, 0, 4, 4);
        // the fewest not carried ends in a greater CELL, with greater bits than one that ends in a lesser CELL
        IceBoats y = new IceBoats();
        y.cell(8, 4, 1, 0);
        y.cell(16, 2, 1, 0);
        y.cell(9, 1, 1, 0);
        CHECK.row(y, 0, 0, 3, 0);
        CHECK.row(y, 1, 2, 9);
        // not carried from 8 first, then 9, not carried: 11 and any; none else is in 9 behind the second
        course(y, 8, 2, 6);
    }

    private static void coursesTold() {
        CHECK.quote(40, "by asked() (0: none).");
        IceBoats x = new IceBoats();
        CHECK.row(x, 0, 0);
        CHECK.row(x, 1, 1, 63);
        x.told(0, 2);
        x.could(0);
        CHECK.due("none", x.courses(0, 0, 1), 0);
        CHECK.due("asked() is 0", x.asked(), 0);
        CHECK.due("set() stays", x.set(), 1);
        CHECK.due("lower() stays", x.lower(), 1);
        // WAYS and what was seen by one ROW
        CHECK.row(x, 2, 1, 4);
        CHECK.due("behind WAY 1 in CELL 4: by WAY 1 from 12", x.courses(12, 2, 2), 4);
        CHECK.due("behind WAY 1 in CELL 4: from elsewhere", x.courses(13, 2, 2), 0);
        x.cell(4, 3, 1, 0);
        CHECK.due("carried on from there", x.courses(12, 2, 2), 2);
        CHECK.due("not carried by the first WAY", x.asked(), 2);
    }
}
