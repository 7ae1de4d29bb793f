import java.math.BigInteger;

/** The boundary cases of what is told: promises 41 to 48, and what is told ahead of anything. */
final class EdgeToldTest {
    private static final Check CHECK = new Check("edges of what is told");
    private static final int LEAST = Integer.MIN_VALUE, GREATEST = Integer.MAX_VALUE, NONE = IceBoats.NONE;

    public static void main(String[] args) {
        before();
        refusedBefore();
        askedAtTheEnds();
        askedNotRefused();
        setNotRefused();
        setsOfCells();
        fractionNotRefused();
        countNumbers();
        countsAtTheEnds();
        findings();
        findingsOfAll();
        digestWraps();
        digestOfWhatIsMissing();
        digestWhenFull();
        CHECK.end();
    }

    private static void before() {
        IceBoats x = new IceBoats();
        CHECK.sentence(41, "0 before");
        CHECK.due("asked()", x.asked(), 0);
        CHECK.sentence(42, "0 before");
        CHECK.due("set()", x.set(), 0);
        CHECK.sentence(43, "0 before");
        CHECK.due("upper()", x.upper(), 0);
        CHECK.sentence(44, "1 before");
        CHECK.due("lower()", x.lower(), 1);
        CHECK.sentence(46, "(0 before any)");
        CHECK.due("finding()", x.finding(), 0);
        CHECK.sentence(47, "How often a FINDING was answered: none");
        for (int f = 1; f <= 5; f++) {
            CHECK.due("findings(" + f + ")", x.findings(f), 0);
        }
    }

    private static void refusedBefore() {
        IceBoats x = new IceBoats();
        CHECK.sentence(41, "that was not refused told; 0 before: those that were refused");
        CHECK.found(x, "lay", () -> x.lay(0, 0, 5), Check.NOTHING);
        CHECK.found(x, "mean", () -> x.mean(0), Check.NOTHING);
        CHECK.bad(x, "sea", () -> x.sea(64, 0));
        CHECK.bad(x, "told", () -> x.told(0, 6));
        CHECK.bad(x, "looked", () -> x.looked(0, 0));
        CHECK.bad(x, "word", () -> x.word(0, 0));
        CHECK.found(x, "shifts", () -> x.shifts(0, 0, 1), Check.NOTHING);
        CHECK.refused(x, "plan", () -> x.plan(63, 0), IceBoats.SPENT);
        CHECK.found(x, "courses", () -> x.courses(0, 0, 0), Check.NOTHING);
        CHECK.due("asked()", x.asked(), 0);
        CHECK.sentence(42, "that was not refused told; 0 before: those that were refused");
        CHECK.bad(x, "could", () -> x.could(6));
        CHECK.bad(x, "mapped", () -> x.mapped(64));
        CHECK.due("set()", x.set(), 0);
        CHECK.sentence(44, "1 before: one that was refused");
        CHECK.found(x, "odds", () -> x.odds(0, 0), Check.NOTHING);
        CHECK.due("upper()", x.upper(), 0);
        CHECK.due("lower()", x.lower(), 1);
    }

    private static void askedAtTheEnds() {
        IceBoats x = new IceBoats();
        CHECK.sentence(41, "What the latest lay() told: any int");
        x.row(0, 1);
        for (int v : new int[] {LEAST, GREATEST, -1, -3, 0}) {
            x.lay(0, 0, v);
            x.lay(0, 0, v);
            CHECK.due("asked()", x.asked(), v);
        }
        CHECK.sentence(41, "What the latest of them told: told again by each");
        x.told(0, 2);
        CHECK.due("told()", x.asked(), 100);
        x.plan(1, 0);
        CHECK.due("plan() of none", x.asked(), 0);
        x.told(0, 2);
        x.row(1, 16);
        CHECK.fill(x, 2, 16, 5);
        CHECK.due("no SHIFT", x.shifts(1, 2, 1), 0);
        CHECK.due("shifts() of none", x.asked(), 0);
        x.told(0, 2);
        CHECK.row(x, 3, 1, 9);
        CHECK.due("no COURSE", x.courses(0, 0, 3), 0);
        CHECK.due("courses() of none", x.asked(), 0);
    }

    private static void askedNotRefused() {
        IceBoats x = new IceBoats();
        CHECK.sentence(41, "that was not refused: it stays by a refused one");
        x.told(0, 2);
        x.lay(0, 0, 0);
        x.row(0, 0);
        x.lay(0, 0, 0);
        x.lay(6, 0, 0);
        x.mean(0);
        x.mean(5);
        x.mean(-1);
        x.sea(0, 5);
        x.sea(-1, 0);
        x.told(6, 1);
        x.told(0, 6);
        x.looked(0, 0);
        x.word(0, 0);
        x.shifts(0, 0, 1);
        x.shifts(0, 0, 0);
        x.plan(0, 0);
        x.plan(63, 0);
        x.plan(1, 1);
        x.courses(0, 0, 0);
        x.courses(64, 0, 0);
        CHECK.due("asked()", x.asked(), 100);
    }

    private static void setNotRefused() {
        IceBoats x = new IceBoats();
        CHECK.sentence(42, "that was not refused: it stays by a refused one");
        x.boat(0, 0, 63, 9);
        x.could(0);
        x.could(6);
        x.could(-1);
        x.mapped(64);
        x.mapped(-1);
        CHECK.due("set()", x.set(), Long.MIN_VALUE);
        CHECK.sentence(42, "The set as it was told: what comes behind does not change it");
        x.boat(0, 0, 5, 9);
        x.look(0);
        x.tick();
        CHECK.due("set()", x.set(), Long.MIN_VALUE);
    }

    private static void setsOfCells() {
        CHECK.sentence(0, "Sets of CELLS are told by 64 bits (set())");
        IceBoats x = new IceBoats();
        for (int c = 0; c < 64; c++) {
            x.boat(0, 1, c, 9);
            CHECK.due("could(0)", x.could(0), 1);
            CHECK.due("CELL " + c, BigInteger.ONE.shiftLeft(c).longValue(), x.set());
        }
    }

    private static void fractionNotRefused() {
        IceBoats x = new IceBoats();
        CHECK.sentence(43, "of the fraction that was told last: it stays by a refused one");
        x.cell(0, 3, 1, 0);
        x.row(0, 1);
        x.odds(0, 0);
        x.odds(64, 0);
        x.odds(0, 1);
        x.row(1, 0);
        x.odds(0, 1);
        CHECK.row(x, 1, 5);
        x.odds(0, 1);
        CHECK.due("upper()", x.upper(), 1);
        CHECK.due("lower()", x.lower(), 4);
        CHECK.sentence(44, "0 by 1");
        x.odds(9, 0);
        CHECK.due("upper()", x.upper(), 0);
        CHECK.due("lower()", x.lower(), 1);
    }

    private static void countNumbers() {
        IceBoats x = new IceBoats();
        CHECK.sentence(45, "BAD");
        for (int what : new int[] {-1, 8, NONE, LEAST, GREATEST}) {
            CHECK.bad(x, "count(" + what + ")", () -> x.count(what));
        }
        CHECK.sentence(47, "BAD");
        for (int f : new int[] {0, -1, 6, NONE, LEAST, GREATEST}) {
            CHECK.bad(x, "findings(" + f + ")", () -> x.findings(f));
        }
    }

    private static void counts(IceBoats x, int... due) {
        for (int what = 0; what < 8; what++) {
            CHECK.due("count(" + what + ")", x.count(what), due[what]);
        }
    }

    private static void countsAtTheEnds() {
        CHECK.sentence(45, "0 THE TICK, 1 ABLE BOATS, 2 words, 3 LOOKS, 4 LOST ones (DEAD, too), 5 HOME ones, 6 ROWS, 7 TEXTS: none");
        IceBoats x = new IceBoats();
        counts(x, 0, 6, 0, 0, 0, 0, 0, 0);
        CHECK.sentence(45, "as many as there can be");
        for (int r = 0; r < 6; r++) {
            x.row(r, 40 * (r % 2));
        }
        for (int t = 0; t < 4; t++) {
            x.text(t, 40 * (t % 2));
        }
        for (int b = 0; b < 6; b++) {
            x.boat(b, 1, 0, 1000);
        }
        for (int w = 0; w < 40; w++) {
            x.look(w % 6);
            x.say(w % 6, 0, 0);
            if (w % 6 == 5) {
                x.tick();
            }
        }
        counts(x, 6, 6, 40, 40, 0, 0, 6, 4);
        CHECK.sentence(45, "5 HOME ones: all; 4 LOST ones (DEAD, too): all");
        for (int b = 0; b < 6; b++) {
            x.home(b);
        }
        counts(x, 6, 0, 40, 40, 0, 6, 6, 4);
        for (int b = 0; b < 6; b++) {
            x.boat(b, 0, 0, b < 3 ? 0 : 9);
        }
        CHECK.text(x, 0, "L0");
        for (int b = 3; b < 6; b++) {
            x.rules(b, 0);
        }
        CHECK.ticks(x, 2);
        counts(x, 8, 0, 40, 40, 6, 0, 6, 4);
        for (int r = 0; r < 6; r++) {
            x.tear(r);
        }
        CHECK.due("none again", x.count(6), 0);
    }

    private static void findings() {
        IceBoats x = new IceBoats();
        CHECK.sentence(0, "FINDINGS: 1 NOTHING, 2 BEYOND, 3 UNLIKE, 4 NOUGHT, 5 SIZE");
        x.row(1, 0);
        CHECK.found(x, "a ROW that is missing", () -> x.lay(0, 0, 1), 1);
        CHECK.found(x, "a place that there is not", () -> x.lay(1, 0, 1), 2);
        CHECK.found(x, "a BOAT of another KIND", () -> x.mark(0, 6), 3);
        CHECK.found(x, "shared among none", () -> x.mean(1), 4);
        CHECK.found(x, "fewer than none", () -> x.row(1, -1), 5);
        CHECK.sentence(46, "The latest FINDING: it stays by what is not refused, and by BAD, FULL, STATE, SPENT");
        x.row(1, 3);
        CHECK.due("finding()", x.finding(), 5);
        CHECK.bad(x, "BAD", () -> x.row(6, 0));
        CHECK.state(x, "STATE", () -> x.rock(0, true));
        CHECK.refused(x, "SPENT", () -> x.plan(63, 0), IceBoats.SPENT);
        x.boat(0, 1, 0, 41);
        for (int l = 0; l < 40; l++) {
            x.look(0);
        }
        CHECK.full(x, "FULL", () -> x.look(0));
        CHECK.due("finding()", x.finding(), 5);
        CHECK.sentence(47, "How often a FINDING (1 .. 5) was answered");
        for (int f = 1; f <= 5; f++) {
            CHECK.due("findings(" + f + ")", x.findings(f), 1);
        }
        for (int i = 2; i <= 100; i++) {
            x.row(0, -1);
            CHECK.due("findings(5)", x.findings(5), i);
        }
        CHECK.due("findings(1)", x.findings(1), 1);
    }

    private static void findingsOfAll() {
        CHECK.sentence(46, "the latest FINDING, by each call that answers one");
        IceBoats x = new IceBoats();
        x.row(0, 0);
        x.text(0, 0);
        CHECK.row(x, 1, 5);
        x.row(2, 1);
        x.row(4, 16);
        CHECK.fill(x, 5, 16, 10);
        x.rock(62, true);
        x.rock(55, true);
        x.say(0, 0, 0);
        CHECK.found(x, "row", () -> x.row(0, -1), Check.SIZE);
        CHECK.found(x, "lay", () -> x.lay(0, 0, 0), Check.BEYOND);
        CHECK.found(x, "tear", () -> x.tear(3), Check.NOTHING);
        CHECK.found(x, "copy", () -> x.copy(0, 0, 0, 0, 1), Check.BEYOND);
        CHECK.found(x, "mean", () -> x.mean(0), Check.NOUGHT);
        CHECK.found(x, "text", () -> x.text(0, -1), Check.SIZE);
        CHECK.found(x, "put", () -> x.put(0, 0, 0), Check.BEYOND);
        CHECK.found(x, "mark", () -> x.mark(0, 1), Check.UNLIKE);
        CHECK.found(x, "time", () -> x.time(0, 63), Check.NOTHING);
        CHECK.found(x, "tells", () -> x.tells(0, 1), Check.UNLIKE);
        CHECK.found(x, "fault", () -> x.fault(1), Check.NOTHING);
        CHECK.found(x, "rules", () -> x.rules(0, 1), Check.NOTHING);
        CHECK.found(x, "shifts", () -> x.shifts(4, 5, 1), Check.UNLIKE);
        CHECK.found(x, "plan", () -> x.plan(1, 1), Check.SIZE);
        CHECK.found(x, "odds", () -> x.odds(0, 1), Check.UNLIKE);
        CHECK.found(x, "courses", () -> x.courses(0, 2, 2), Check.SIZE);
        int[] due = {4, 3, 4, 1, 4};
        for (int f = 1; f <= 5; f++) {
            CHECK.due("findings(" + f + ")", x.findings(f), due[f - 1]);
        }
    }

    private static BigInteger more(BigInteger h, long... all) {
        BigInteger next = h;
        for (long v : all) {
            next = next.multiply(BigInteger.valueOf(31)).add(BigInteger.valueOf(v));
        }
        return next;
    }

    // Of a new object but for what is laid: h without a long that wraps, cut to 64 bits at last
    private static long digestWith(int rows, int... places) {
        BigInteger h = more(BigInteger.valueOf(17), 0, 6, 0, 0, 0, 0, rows, 0);
        for (int c = 0; c < 64; c++) {
            h = more(h, 0, 0, 1, 0, -9);
        }
        h = more(h, 0);
        for (int b = 0; b < 6; b++) {
            h = more(h, 0, 0, 100, 1, 0, 0, 1, -9, -9, -9, -9);
        }
        h = more(h, rows == 0 ? -1 : places.length);
        for (int v : places) {
            h = more(h, v);
        }
        h = more(h, -1, -1, -1, -1, -1);
        return more(h, -1, -1, -1, -1).longValue();
    }

    private static void digestWraps() {
        CHECK.sentence(48, "h = 17; then h = 31 h + v for each v (a long that wraps)");
        CHECK.due("of a new object", new IceBoats().digest(), digestWith(0));
        int[][] rows = {{}, {0}, {LEAST}, {GREATEST}, {-1}, {GREATEST, GREATEST, LEAST, LEAST, 5}, new int[40]};
        for (int[] places : rows) {
            IceBoats x = new IceBoats();
            CHECK.row(x, 0, places);
            CHECK.due("of a ROW of " + places.length, x.digest(), digestWith(1, places));
        }
        CHECK.sentence(48, "COULD: all 64 bits of it");
        IceBoats x = new IceBoats();
        x.boat(5, 0, 63, 100);
        BigInteger h = more(BigInteger.valueOf(17), 0, 6, 0, 0, 0, 0, 0, 0);
        for (int c = 0; c < 64; c++) {
            h = more(h, 0, 0, 1, 0, -9);
        }
        h = more(h, 0);
        for (int b = 0; b < 5; b++) {
            h = more(h, 0, 0, 100, 1, 0, 0, 1, -9, -9, -9, -9);
        }
        h = more(h, 0, 63, 100, 1, 0, 0, Long.MIN_VALUE, -9, -9, -9, -9, -1, -1, -1, -1, -1, -1, -1, -1, -1, -1);
        CHECK.due("of a BOAT in 63", x.digest(), h.longValue());
    }

    private static void digestOfWhatIsMissing() {
        CHECK.sentence(48, "of each ROW its size (-1: missing) and places, of each TEXT likewise");
        for (int r = 0; r < 6; r++) {
            IceBoats x = new IceBoats();
            x.row(r, 0);
            CHECK.due("a ROW of none is not missing", x.digest() == new IceBoats().digest() ? 1 : 0, 0);
            long none = x.digest();
            x.row(r, 1);
            CHECK.due("nor as one of 1", x.digest() == none ? 1 : 0, 0);
            x.tear(r);
            CHECK.due("torn: as if it had not been", x.digest(), new IceBoats().digest());
        }
        for (int t = 0; t < 4; t++) {
            IceBoats x = new IceBoats();
            x.text(t, 0);
            CHECK.due("a TEXT of none is not missing", x.digest() == new IceBoats().digest() ? 1 : 0, 0);
            x.text(t, 1);
            long blank = x.digest();
            x.put(t, 0, 31);
            CHECK.due("a byte", x.digest(), blank - powerOf31(3 - t));
        }
        CHECK.sentence(48, "digest() changes nothing, and no longer ROW is seen behind a shorter one");
        IceBoats x = new IceBoats();
        CHECK.fill(x, 0, 40, 7);
        x.row(0, 1);
        CHECK.due("shorter now", x.digest(), digestWith(1, 0));
        CHECK.due("again", x.digest(), digestWith(1, 0));
    }

    // 40 words and 40 LOOKS, some of them HELD by others, some words MET, some not come yet
    private static IceBoats full() {
        IceBoats x = new IceBoats();
        for (int c = 0; c < 64; c++) {
            x.cell(c, c % 5, 1 + c % 4, c % 10);
            x.chart(c, c % 2 == 0 ? NONE : c % 10);
        }
        x.rock(63, true);
        x.hole(62);
        for (int b = 0; b < 6; b++) {
            x.boat(b, b % 4, 9 * b, 1000);
        }
        for (int w = 0; w < 40; w++) {
            x.look(w % 5);
            x.say(w % 5, w % 5, w % 5 == 2 ? w : w % 4);
            if (w % 2 == 1) {
                x.tick();
            }
        }
        CHECK.due("words", x.count(2), 40);
        CHECK.due("LOOKS", x.count(3), 40);
        return x;
    }

    private static void digestWhenFull() {
        CHECK.sentence(48, "of each word word() 0 to 3, heard() of BOATS 0 to 5; of each LOOK looked() 0 to 3: 40 of each");
        IceBoats x = full();
        BigInteger h = BigInteger.valueOf(17);
        for (int what = 0; what < 8; what++) {
            h = more(h, x.count(what));
        }
        for (int i = 0; i < 64 * 5; i++) {
            x.sea(i / 5, i % 5);
            h = more(h, x.asked());
        }
        h = more(h, 62);
        for (int b = 0; b < 6; b++) {
            for (int what = 0; what < 6; what++) {
                x.told(b, what);
                h = more(h, x.asked());
            }
            x.could(b);
            h = more(h, x.set(), x.rule(b, 0), x.rule(b, 1), x.rule(b, 2), x.rule(b, 3));
        }
        for (int w = 0; w < 40; w++) {
            for (int what = 0; what < 4; what++) {
                x.word(w, what);
                h = more(h, x.asked());
            }
            for (int b = 0; b < 6; b++) {
                h = more(h, x.heard(w, b));
            }
        }
        for (int i = 0; i < 160; i++) {
            x.looked(i / 4, i % 4);
            h = more(h, x.asked());
        }
        CHECK.due("digest()", x.digest(), more(h, -1, -1, -1, -1, -1, -1, -1, -1, -1, -1).longValue());
        CHECK.due("alike by the same calls", x.digest(), full().digest());
    }

    private static long powerOf31(int n) {
        long all = 1;
        for (int i = 0; i < n; i++) {
            all *= 31;
        }
        return all;
    }
}
