/** Promises 36 to 40: maps, plans, odds, courses. */
final class MapsTest {
    private static final Check CHECK = new Check("maps");
    private static final int NONE = IceBoats.NONE;

    public static void main(String[] args) {
        refusedShifts();
        shifts();
        mapped();
        refusedPlans();
        plans();
        alikePlans();
        refusedOdds();
        odds();
        refusedCourses();
        courses();
        shortened();
        CHECK.end();
    }

    private static void fill(IceBoats x, int r, int n, int v) {
        x.row(r, n);
        for (int i = 0; i < n; i++) {
            x.lay(r, i, v);
        }
    }

    private static void refusedShifts() {
        IceBoats x = new IceBoats();
        CHECK.refused(x, "shifts(6, 0, 1)", () -> x.shifts(6, 0, 1), IceBoats.BAD);
        CHECK.refused(x, "shifts(0, -1, 1)", () -> x.shifts(0, -1, 1), IceBoats.BAD);
        CHECK.refused(x, "k 0", () -> x.shifts(0, 1, 0), IceBoats.BAD);
        CHECK.refused(x, "k 17", () -> x.shifts(0, 1, 17), IceBoats.BAD);
        CHECK.found(x, "both missing", () -> x.shifts(0, 1, 1), Check.NOTHING);
        x.row(0, 15);
        CHECK.found(x, "one missing", () -> x.shifts(0, 1, 1), Check.NOTHING);
        fill(x, 1, 16, 10);
        CHECK.found(x, "15", () -> x.shifts(0, 1, 1), Check.SIZE);
        CHECK.found(x, "15, the other", () -> x.shifts(1, 0, 1), Check.SIZE);
        x.row(0, 17);
        CHECK.found(x, "17", () -> x.shifts(0, 1, 1), Check.SIZE);
        x.row(0, 16);
        CHECK.found(x, "10", () -> x.shifts(0, 1, 1), Check.UNLIKE);
        CHECK.found(x, "10, the first", () -> x.shifts(1, 0, 1), Check.UNLIKE);
        fill(x, 1, 16, -1);
        CHECK.found(x, "-1", () -> x.shifts(0, 1, 1), Check.UNLIKE);
        for (int i = 0; i < 16; i++) {
            x.row(1, 16);
            x.lay(1, i, 10);
            CHECK.found(x, "10 at place " + i, () -> x.shifts(0, 1, 1), Check.UNLIKE);
        }
        fill(x, 1, 16, 9);
        CHECK.due("9 is fine", x.shifts(0, 1, 1), 0);
    }

    private static void shifts() {
        IceBoats x = new IceBoats();
        x.row(0, 16);
        CHECK.due("all alike, all SHIFTS", x.shifts(0, 0, 1), 49);
        CHECK.due("the first one", x.asked(), 0);
        CHECK.due("with 16", x.shifts(0, 0, 16), 1);
        CHECK.due("no SHIFT", x.asked(), 33);
        CHECK.due("with 12", x.shifts(0, 0, 12), 5);
        CHECK.due("y first: (0, -1)", x.asked(), 32);
        CHECK.due("with 4", x.shifts(0, 0, 4), 29);
        CHECK.due("the least y: (0, -3)", x.asked(), 30);
        fill(x, 0, 16, NONE);
        fill(x, 1, 16, NONE);
        CHECK.due("none told", x.shifts(0, 1, 1), 0);
        CHECK.due("none", x.asked(), 0);
        x.lay(0, 0, 7);
        x.lay(1, 15, 7);
        CHECK.due("(3, 3)", x.shifts(0, 1, 1), 1);
        CHECK.due("told", x.asked(), 66);
        CHECK.due("(-3, -3)", x.shifts(1, 0, 1), 1);
        CHECK.due("told", x.asked(), 0);
        CHECK.due("with 2", x.shifts(0, 1, 2), 0);
        x.lay(1, 15, NONE);
        x.lay(1, 2, 7);
        CHECK.due("(2, 0)", x.shifts(0, 1, 1), 1);
        CHECK.due("told", x.asked(), 53);
        x.lay(1, 4, 7);
        CHECK.due("(2, 0) and (0, 1)", x.shifts(0, 1, 1), 2);
        CHECK.due("by y first", x.asked(), 53);
        x.lay(0, 1, 3);
        x.lay(1, 3, 4);
        CHECK.due("unlike at one place", x.shifts(0, 1, 1), 1);
        CHECK.due("told", x.asked(), 34);
        x.lay(1, 5, 3);
        CHECK.due("two told by both", x.shifts(0, 1, 2), 1);
        CHECK.due("told", x.asked(), 34);
        CHECK.due("three not", x.shifts(0, 1, 3), 0);
    }

    private static void mapped() {
        IceBoats x = new IceBoats();
        CHECK.refused(x, "bits 64", () -> x.mapped(64), IceBoats.BAD);
        CHECK.refused(x, "bits -1", () -> x.mapped(-1), IceBoats.BAD);
        CHECK.due("none", x.mapped(63), 0);
        IceBoats y = new IceBoats();
        y.look(4);
        CHECK.due("the first LOOK", y.mapped(16), 1);
        CHECK.due("set()", y.set(), 1);
        x.boat(1, 0, 63, 100);
        x.look(0);
        x.look(0);
        x.look(1);
        x.look(2);
        CHECK.due("unlike CELLS", x.mapped(63), 2);
        CHECK.due("set()", x.set(), 1L | 1L << 63);
        CHECK.due("of 1", x.mapped(2), 1);
        CHECK.due("set()", x.set(), 1L << 63);
        CHECK.due("of 0 and 2", x.mapped(5), 1);
        CHECK.due("of nobody", x.mapped(0), 0);
        CHECK.due("set()", x.set(), 0);
        x.boat(3, 0, 62, 9);
        x.say(1, 2, 2);
        x.tick();
        CHECK.due("got by a word", x.mapped(8), 1);
        CHECK.due("set()", x.set(), 1L << 63);
        CHECK.due("not HELD", x.mapped(16), 0);
    }

    private static void refusedPlans() {
        IceBoats x = new IceBoats();
        CHECK.refused(x, "no BOATS", () -> x.plan(0, 1), IceBoats.BAD);
        CHECK.refused(x, "BOATS 64", () -> x.plan(64, 1), IceBoats.BAD);
        CHECK.refused(x, "BOATS -1", () -> x.plan(-1, 1), IceBoats.BAD);
        CHECK.refused(x, "ROWS 64", () -> x.plan(1, 64), IceBoats.BAD);
        CHECK.refused(x, "ROWS -1", () -> x.plan(15, -1), IceBoats.BAD);
        CHECK.refused(x, "four BOATS, a ROW missing", () -> x.plan(15, 1), IceBoats.SPENT);
        CHECK.refused(x, "all BOATS", () -> x.plan(63, 0), IceBoats.SPENT);
        CHECK.found(x, "missing", () -> x.plan(7, 1), Check.NOTHING);
        x.row(0, 0);
        CHECK.found(x, "no WAYS", () -> x.plan(7, 1), Check.SIZE);
        x.row(1, 13);
        CHECK.found(x, "13 WAYS", () -> x.plan(7, 2), Check.SIZE);
        CHECK.row(x, 2, 0, 5);
        CHECK.found(x, "WAY 5", () -> x.plan(7, 4), Check.UNLIKE);
        CHECK.row(x, 3, -1);
        CHECK.found(x, "WAY -1", () -> x.plan(7, 8), Check.UNLIKE);
        CHECK.found(x, "SIZE ahead of UNLIKE", () -> x.plan(7, 7), Check.SIZE);
        CHECK.row(x, 5, 1);
        CHECK.row(x, 0, 9);
        CHECK.found(x, "SIZE ahead, be it behind", () -> x.plan(7, 1 | 2 | 32), Check.SIZE);
        CHECK.found(x, "NOTHING ahead of both", () -> x.plan(7, 1 | 2 | 16), Check.NOTHING);
        CHECK.due("only what is told", x.plan(7, 32) >= 0 ? 1 : 0, 1);
    }

    private static void plans() {
        IceBoats x = new IceBoats();
        CHECK.due("no ROWS", x.plan(56, 0), 0);
        CHECK.due("none goes", x.asked(), 0);
        CHECK.row(x, 0, 3, 3, 3, 0, 0);
        CHECK.row(x, 1, 4, 4);
        CHECK.row(x, 5, 3, 2, 3, 2, 3, 2, 3, 2, 3, 2, 3, 2);
        x.boat(1, 0, 16, 6);
        x.cell(17, 4, 1, 0);
        CHECK.due("one BOAT, with the first CELL", x.plan(2, 1), 4);
        CHECK.due("by ROW 0", x.asked(), 1);
        x.boat(1, 0, 16, 5);
        CHECK.due("POWER 5 is too little for 6", x.plan(2, 3), 3);
        CHECK.due("by ROW 1", x.asked(), 2);
        x.boat(1, 0, 16, 3);
        CHECK.due("none has enough", x.plan(2, 35), 0);
        CHECK.due("none", x.asked(), 0);
        x.boat(1, 0, 16, 24);
        CHECK.due("back and forth", x.plan(2, 32), 2);
        CHECK.due("by ROW 5", x.asked(), 6);
        x.rock(18, true);
        CHECK.due("what does not lead on", x.plan(2, 1), 2);
        CHECK.due("takes POWER, too", x.asked(), 1);
        x.boat(1, 0, 16, 5);
        CHECK.due("even so", x.plan(2, 1), 0);
        IceBoats y = new IceBoats();
        CHECK.row(y, 0, 3, 3, 3);
        CHECK.row(y, 1, 4, 4);
        y.boat(0, 0, 0, 4);
        y.boat(2, 0, 1, 6);
        y.boat(5, 0, 3, 100);
        CHECK.due("three BOATS", y.plan(37, 3), 3 + 3 + 4);
        CHECK.due("who by which", y.asked(), 122);
        y.boat(5, 0, 63, 0);
        y.home(0);
        CHECK.row(y, 2, 0);
        CHECK.due("a HOME one is counted, one without POWER by WAY 0", y.plan(33, 7), 4);
        CHECK.due("who by which", y.asked(), 32);
    }

    // Of alike ones the first by BOATS, none ahead, then by ROWS
    private static void alikePlans() {
        IceBoats x = new IceBoats();
        CHECK.row(x, 1, 3, 3);
        CHECK.row(x, 2, 3, 3, 0);
        CHECK.row(x, 4, 4, 4);
        CHECK.due("the last BOAT alone is enough", x.plan(7, 6), 3);
        CHECK.due("none ahead", x.asked(), 200);
        CHECK.due("two of them", x.plan(7, 22), 5);
        CHECK.due("the first none, then the lesser ROW", x.asked(), 520);
        x.boat(0, 0, 32, 100);
        for (int r = 0; r < 6; r++) {
            CHECK.row(x, r, 3, 3);
        }
        CHECK.row(x, 5, 3, 3, 3);
        CHECK.due("all ROWS", x.plan(32, 63), 4);
        CHECK.due("the last ROW", x.asked(), 6);
        CHECK.due("each", x.plan(3, 6), 6);
        CHECK.due("the lesser ROW", x.asked(), 22);
    }

    // What was behind the end of a longer ROW is not there any more
    private static void shortened() {
        for (int v : new int[] {77, 4, -9}) {
            IceBoats x = new IceBoats();
            fill(x, 0, 40, v);
            fill(x, 1, 40, v);
            x.row(0, 16);
            x.row(1, 16);
            CHECK.due("16 of 40", x.shifts(0, 1, 16), 1);
            x.row(0, 2);
            x.boat(1, 0, 0, 0);
            CHECK.due("2 of 40, without POWER", x.plan(2, 1), 1);
            CHECK.due("by ROW 0", x.asked(), 1);
            CHECK.row(x, 0, 3);
            CHECK.due("1 of 40", x.plan(1, 1), 2);
            share(x, "1 of 40", x.odds(0, 0), 0, 1);
            x.row(1, 0);
            CHECK.due("none of 40 seen", x.courses(0, 0, 1), 2);
            CHECK.row(x, 1, 1, 1);
            CHECK.due("one of 20 seen", x.courses(0, 0, 1), 2);
            CHECK.asked(x, "mean", x.mean(0), 3);
        }
    }

    private static void refusedOdds() {
        IceBoats x = new IceBoats();
        x.rock(9, true);
        CHECK.refused(x, "odds(64, 0)", () -> x.odds(64, 0), IceBoats.BAD);
        CHECK.refused(x, "odds(-1, 0)", () -> x.odds(-1, 0), IceBoats.BAD);
        CHECK.refused(x, "odds(0, 6)", () -> x.odds(0, 6), IceBoats.BAD);
        CHECK.refused(x, "odds(0, -1)", () -> x.odds(0, -1), IceBoats.BAD);
        CHECK.refused(x, "from ROCK", () -> x.odds(9, 0), IceBoats.BAD);
        CHECK.found(x, "missing", () -> x.odds(0, 0), Check.NOTHING);
        x.row(0, 0);
        CHECK.found(x, "no WAYS", () -> x.odds(0, 0), Check.SIZE);
        fill(x, 0, 9, 7);
        CHECK.found(x, "9 WAYS", () -> x.odds(0, 0), Check.SIZE);
        CHECK.row(x, 0, 0, 5);
        CHECK.found(x, "WAY 5", () -> x.odds(0, 0), Check.UNLIKE);
        CHECK.row(x, 0, -1);
        CHECK.found(x, "WAY -1", () -> x.odds(0, 0), Check.UNLIKE);
        CHECK.due("0 before", x.upper(), 0);
        CHECK.due("1 before", x.lower(), 1);
    }

    private static void share(IceBoats x, String what, int done, long upper, long lower) {
        CHECK.due(what, done, 1);
        CHECK.due(what + ", upper()", x.upper(), upper);
        CHECK.due(what + ", lower()", x.lower(), lower);
    }

    private static void odds() {
        IceBoats x = new IceBoats();
        fill(x, 0, 8, 0);
        share(x, "stays in THE HOLE", x.odds(0, 0), 1, 1);
        share(x, "never there", x.odds(5, 0), 0, 1);
        x.cell(0, 3, 1, 0);
        CHECK.row(x, 1, 0);
        share(x, "carried away", x.odds(0, 1), 1, 4);
        x.hole(1);
        share(x, "carried there", x.odds(0, 1), 3, 4);
        CHECK.row(x, 1, 3);
        share(x, "the CURRENT of where it is then", x.odds(0, 1), 1, 1);
        share(x, "8 times", x.odds(0, 0), 65535, 65536);
        x.cell(1, 3, 1, 0);
        CHECK.row(x, 1, 0, 0);
        share(x, "once of two", x.odds(0, 1), 3, 8);
        x.rock(1, false);
        x.cell(8, 2, 1, 0);
        x.cell(1, 2, 1, 0);
        share(x, "there and back", x.odds(1, 1), 5, 8);
        CHECK.found(x, "refused", () -> x.odds(0, 5), Check.NOTHING);
        CHECK.due("as it was told last", x.upper() * 100 + x.lower(), 508);
    }

    private static void refusedCourses() {
        IceBoats x = new IceBoats();
        x.rock(9, true);
        CHECK.refused(x, "courses(64, 0, 1)", () -> x.courses(64, 0, 1), IceBoats.BAD);
        CHECK.refused(x, "courses(-1, 0, 1)", () -> x.courses(-1, 0, 1), IceBoats.BAD);
        CHECK.refused(x, "courses(0, 6, 1)", () -> x.courses(0, 6, 1), IceBoats.BAD);
        CHECK.refused(x, "courses(0, 0, 6)", () -> x.courses(0, 0, 6), IceBoats.BAD);
        CHECK.refused(x, "courses(0, -1, -1)", () -> x.courses(0, -1, -1), IceBoats.BAD);
        CHECK.refused(x, "from ROCK", () -> x.courses(9, 0, 1), IceBoats.BAD);
        CHECK.found(x, "both missing", () -> x.courses(0, 0, 1), Check.NOTHING);
        x.row(0, 0);
        CHECK.found(x, "seen missing", () -> x.courses(0, 0, 1), Check.NOTHING);
        CHECK.found(x, "WAYS missing", () -> x.courses(0, 1, 0), Check.NOTHING);
        x.row(1, 0);
        CHECK.found(x, "no WAYS", () -> x.courses(0, 0, 1), Check.SIZE);
        fill(x, 0, 11, 6);
        CHECK.found(x, "11 WAYS", () -> x.courses(0, 0, 1), Check.SIZE);
        CHECK.row(x, 0, 5);
        CHECK.row(x, 1, 1, 1, 1);
        CHECK.found(x, "not by twos", () -> x.courses(0, 0, 1), Check.SIZE);
        x.row(1, 0);
        CHECK.found(x, "WAY 5", () -> x.courses(0, 0, 1), Check.UNLIKE);
        CHECK.row(x, 0, 0, 0);
        int[][] pairs = {{0, 5}, {3, 5}, {-1, 5}, {1, 64}, {1, -1}, {1, NONE}};
        for (int[] pair : pairs) {
            CHECK.row(x, 1, 1, 0, pair[0], pair[1]);
            CHECK.found(x, "seen " + pair[0] + ", " + pair[1], () -> x.courses(0, 0, 1), Check.UNLIKE);
        }
    }

    private static void courses() {
        IceBoats x = new IceBoats();
        fill(x, 0, 10, 0);
        x.row(1, 0);
        CHECK.due("nothing seen", x.courses(0, 0, 1), 1024);
        CHECK.due("all carried", x.asked(), 0);
        for (int c = 0; c < 8; c++) {
            x.cell(c, 3, 1, 0);
        }
        CHECK.row(x, 0, 0, 0, 0, 0);
        CHECK.row(x, 1, 4, 2);
        CHECK.due("two of four carried", x.courses(0, 0, 1), 6);
        CHECK.due("the first of them", x.asked(), 3);
        CHECK.row(x, 1, 4, 2, 1, 0);
        CHECK.due("not the first", x.courses(0, 0, 1), 3);
        CHECK.due("the first highest", x.asked(), 9);
        CHECK.row(x, 1, 4, 2, 2, 0);
        CHECK.due("just one", x.courses(0, 0, 1), 1);
        CHECK.due("told", x.asked(), 12);
        CHECK.row(x, 1, 4, 2, 4, 2);
        CHECK.due("seen twice alike", x.courses(0, 0, 1), 6);
        CHECK.row(x, 1, 4, 2, 4, 3);
        CHECK.due("seen twice unlike", x.courses(0, 0, 1), 0);
        CHECK.due("none", x.asked(), 0);
        CHECK.row(x, 0, 3, 4);
        CHECK.row(x, 1, 2, 10);
        CHECK.due("carried behind the WAY", x.courses(0, 0, 1), 2);
        CHECK.due("carried, then either", x.asked(), 0);
        CHECK.row(x, 0, 2, 2);
        CHECK.due("one ROW for both", x.courses(0, 0, 0), 0);
        fewestAhead();
        noneCarried();
    }

    // Ten WAYS, none of them carried: the oddest of all
    private static void noneCarried() {
        IceBoats x = new IceBoats();
        x.cell(9, 1, 1, 0);
        fill(x, 0, 10, 0);
        CHECK.row(x, 1, 10, 9);
        CHECK.due("just one", x.courses(9, 0, 1), 1);
        CHECK.due("all bits", x.asked(), 1023);
        for (int n = 1; n <= 10; n++) {
            fill(x, 0, n, 0);
            CHECK.row(x, 1, n, 9);
            CHECK.due("just one of " + n, x.courses(9, 0, 1), 1);
            CHECK.due("all bits of " + n, x.asked(), (1 << n) - 1);
        }
    }

    // Fewest not carried goes ahead of the lesser bits
    private static void fewestAhead() {
        IceBoats x = new IceBoats();
        // 0 carries to 1, which is the only CELL from which WAY 3 leads on at last
        x.cell(0, 3, 1, 0);
        x.cell(1, 2, 1, 0);
        CHECK.row(x, 0, 0, 0, 0);
        CHECK.row(x, 1, 3, 0);
        // rows (1: not carried) that end in 0: 111, 100 (0, 1, 0), 001 (1, 0, 0), 010 (1, 1, 0)
        CHECK.due("four end there", x.courses(0, 0, 1), 4);
        CHECK.due("one not carried, the last", x.asked(), 1);
        CHECK.row(x, 1, 3, 0, 1, 0);
        CHECK.due("two of these", x.courses(0, 0, 1), 2);
        CHECK.due("the one with fewest", x.asked(), 4);
        CHECK.row(x, 1, 3, 1);
        CHECK.due("four end beside", x.courses(0, 0, 1), 4);
        CHECK.due("all carried is least", x.asked(), 0);
    }
}
