import java.lang.reflect.Field;
import java.lang.reflect.Modifier;

/** Along the document: the public face, the refusals and FINDINGS of the terms, and promises 41 to 48. */
final class DocTermsTest {
    private static final Check CHECK = new Check("the document: terms, what is told");
    private static final int NONE = IceBoats.NONE;

    public static void main(String[] args) throws Exception {
        constants();
        refusals();
        findingOfEach();
        findingsStay();
        fractions();
        sets();
        askedByThese();
        askedByNoOthers();
        setByNoOthers();
        counts();
        digestOfEach();
        digestInOrder();
        askingChangesNothing();
        CHECK.end();
    }

    private static void constants() throws Exception {
        CHECK.quote(0, "public static final int BAD = -1, FULL = -2, FINDING = -3, STATE = -4, SPENT = -6, NONE = -9;");
        String[] names = {"BAD", "FULL", "FINDING", "STATE", "SPENT", "NONE"};
        int[] values = {-1, -2, -3, -4, -6, -9};
        for (int i = 0; i < names.length; i++) {
            Field f = IceBoats.class.getDeclaredField(names[i]);
            int how = Modifier.PUBLIC | Modifier.STATIC | Modifier.FINAL;
            CHECK.due(names[i] + " is public static final", f.getModifiers(), how);
            CHECK.due(names[i] + " is an int", f.getType() == int.class ? 1 : 0, 1);
            CHECK.due(names[i], f.getInt(null), values[i]);
        }
        CHECK.quote(0, "public final class IceBoats {");
        CHECK.due("public final", IceBoats.class.getModifiers(), Modifier.PUBLIC | Modifier.FINAL);
        CHECK.due("without a package", IceBoats.class.getPackageName().length(), 0);
        for (Class<?> own : IceBoats.class.getDeclaredClasses()) {
            CHECK.due(own + " is not public", Modifier.isPublic(own.getModifiers()) ? 1 : 0, 0);
        }
    }

    private static void refusals() {
        CHECK.quote(0, "Refused is, the first of these that fits, in this order: BAD -1 (a number that is none, or not as told), FULL -2, STATE -4 (not now), SPENT -6 (more than told), FINDING -3 (finding() tells which), unless a call says so otherwise.");
        IceBoats x = new IceBoats();
        CHECK.due("BAD ahead of SIZE", x.row(6, -1), -1);
        CHECK.due("BAD ahead of NOTHING", x.lay(6, 0, 0), -1);
        CHECK.due("BAD ahead of SIZE, NOTHING", x.copy(0, 0, 6, 0, -1), -1);
        CHECK.due("BAD ahead of STATE", x.boat(6, 0, 0, 0), -1);
        x.rock(9, true);
        CHECK.due("BAD ahead of STATE: ROCK", x.boat(0, 4, 9, 0), -1);
        CHECK.due("BAD ahead of STATE: ROCK", x.boat(0, 0, 9, 1001), -1);
        CHECK.due("BAD ahead of SPENT", x.plan(63, 64), -1);
        CHECK.due("SPENT ahead of NOTHING", x.plan(63, 1), -6);
        CHECK.due("BAD (ROCK) ahead of NOTHING", x.odds(9, 0), -1);
        CHECK.due("BAD (ROCK) ahead of NOTHING", x.courses(9, 0, 0), -1);
        CHECK.due("BAD ahead of UNLIKE", x.mark(0, 7), -1);
        CHECK.due("finding() is none of BAD, SPENT", x.finding(), 0);
        CHECK.quote(33, "BAD; NOTHING; STATE: a FAULT. (STATE behind NOTHING.)");
        CHECK.due("NOTHING", x.rules(0, 0), -3);
        CHECK.due("finding()", x.finding(), 1);
    }

    private static void findingOfEach() {
        CHECK.quote(0, "FINDINGS: 1 NOTHING (a ROW, a TEXT that is missing; no way for a sound), 2 BEYOND (a place that there is not), 3 UNLIKE (a BOAT, a WORD of another KIND; a number that is none), 4 NOUGHT (shared among none), 5 SIZE (fewer than none; not as many as due).");
        IceBoats x = Fleet.only(9, 10);
        CHECK.found(x, "a ROW that is missing", () -> x.mean(0), 1);
        CHECK.found(x, "a TEXT that is missing", () -> x.fault(0), 1);
        x.rock(1, true);
        x.rock(8, true);
        CHECK.found(x, "no way for a sound", () -> x.time(0, 63), 1);
        x.row(0, 2);
        x.text(0, 2);
        CHECK.found(x, "a place of a ROW", () -> x.lay(0, 2, 0), 2);
        CHECK.found(x, "a place of a ROW", () -> x.copy(0, 1, 0, 0, 2), 2);
        CHECK.found(x, "a place of a TEXT", () -> x.put(0, -1, 0), 2);
        CHECK.found(x, "a BOAT of another KIND", () -> x.mark(0, 1), 3);
        x.say(0, 1, 0);
        CHECK.found(x, "a WORD of another KIND", () -> x.tells(0, 2), 3);
        CHECK.row(x, 1, 5);
        CHECK.found(x, "a number that is none: a WAY", () -> x.odds(0, 1), 3);
        CHECK.found(x, "a number that is none: a WAY", () -> x.plan(1, 2), 3);
        CHECK.row(x, 1, 4);
        CHECK.row(x, 2, 2, 4);
        CHECK.found(x, "a number that is none: behind which", () -> x.courses(0, 1, 2), 3);
        CHECK.fill(x, 3, 16, 10);
        CHECK.found(x, "a number that is none: of a MAP", () -> x.shifts(3, 3, 1), 3);
        x.row(4, 0);
        CHECK.found(x, "shared among none", () -> x.mean(4), 4);
        CHECK.found(x, "fewer than none", () -> x.row(5, -1), 5);
        CHECK.found(x, "fewer than none", () -> x.text(1, -1), 5);
        CHECK.found(x, "fewer than none", () -> x.copy(0, 0, 0, 0, -1), 5);
        CHECK.found(x, "not as many as due", () -> x.shifts(0, 0, 1), 5);
        CHECK.found(x, "not as many as due", () -> x.odds(0, 4), 5);
        CHECK.found(x, "not as many as due", () -> x.plan(1, 16), 5);
        CHECK.found(x, "not as many as due", () -> x.courses(0, 0, 1), 5);
    }

    private static void findingsStay() {
        CHECK.quote(46, "The latest FINDING (0 before any).");
        IceBoats x = Fleet.only(9, 10);
        x.mean(0);
        x.row(0, 16);
        for (int i = 0; i < 16; i++) {
            x.lay(0, i, 0);
        }
        x.row(1, 1);
        x.row(2, 0);
        x.text(0, 0);
        x.mean(0);
        x.look(0);
        x.say(0, 0, 0);
        x.sea(0, 0);
        x.told(0, 0);
        x.looked(0, 0);
        x.word(0, 0);
        x.shifts(0, 0, 1);
        x.plan(1, 2);
        x.courses(0, 1, 2);
        x.odds(0, 1);
        x.could(0);
        x.mapped(63);
        x.fault(0);
        x.rules(0, 0);
        x.match(0);
        x.tick();
        x.count(0);
        x.digest();
        CHECK.due("it stays by all that is not refused", x.finding(), 1);
        CHECK.due("once", x.findings(1), 1);
        x.count(8);
        x.findings(0);
        x.findings(6);
        x.plan(15, 0);
        x.home(0);
        CHECK.due("it stays by what is refused otherwise", x.finding(), 1);
        CHECK.quote(47, "How often a FINDING (1 .. 5) was answered.");
        for (int n = 1; n <= 20; n++) {
            x.lay(0, 16, 0);
            CHECK.due("BEYOND", x.findings(2), n);
            CHECK.due("NOTHING", x.findings(1), 1);
            CHECK.due("the latest", x.finding(), 2);
        }
    }

    private static void fractions() {
        CHECK.quote(0, "Fractions are told by upper() and lower(), in lowest terms, the lower number above 0 (0 by 1).");
        IceBoats x = new IceBoats();
        CHECK.due("upper() before", x.upper(), 0);
        CHECK.due("lower() before", x.lower(), 1);
        Fleet.currents(x, 3);
        // behind n WAYS 0 in a CURRENT to greater x: k times carried, of n
        long[] choose = {1, 8, 28, 56, 70, 56, 28};
        CHECK.fill(x, 0, 8, 0);
        for (int k = 0; k <= 6; k++) {
            x.hole(k);
            x.odds(0, 0);
            long upper = choose[k];
            for (int i = 0; i < k; i++) {
                upper *= 3;
            }
            long lower = 65536;
            while (upper % 2 == 0) {
                upper /= 2;
                lower /= 2;
            }
            CHECK.due("upper(), " + k, x.upper(), upper);
            CHECK.due("lower(), " + k, x.lower(), lower);
        }
        x.hole(7);
        x.odds(0, 0);
        CHECK.due("upper(), 7 or 8 times", x.upper(), 8 * 2187 + 6561);
        CHECK.due("lower(), 7 or 8 times", x.lower(), 65536);
        x.hole(8);
        x.odds(0, 0);
        CHECK.due("upper(), none", x.upper(), 0);
        CHECK.due("lower(), none", x.lower(), 1);
    }

    private static void sets() {
        CHECK.quote(0, "Sets of CELLS are told by 64 bits (set()).");
        for (int c = 0; c < 64; c++) {
            IceBoats x = new IceBoats();
            x.boat(2, 0, c, 100);
            CHECK.due("could()", x.could(2), 1);
            CHECK.due("CELL " + c, x.set(), 1L << c);
            x.could(0);
            x.look(2);
            CHECK.due("mapped()", x.mapped(4), 1);
            CHECK.due("CELL " + c, x.set(), 1L << c);
        }
    }

    private static void askedByThese() {
        CHECK.quote(41, "What the latest lay(), mean(), sea(), told(), looked(), word(), shifts(), plan(), courses() that was not refused told; 0 before.");
        IceBoats x = Fleet.only(9, 10);
        CHECK.row(x, 0, 30, 50);
        x.lay(0, 0, 40);
        CHECK.due("lay()", x.asked(), 30);
        x.mean(0);
        CHECK.due("mean()", x.asked(), 45);
        x.sea(9, 2);
        CHECK.due("sea()", x.asked(), 1);
        x.told(0, 2);
        CHECK.due("told()", x.asked(), 100);
        x.look(0);
        x.looked(0, 0);
        CHECK.due("looked()", x.asked(), 9);
        x.say(0, 4, 44);
        x.word(0, 3);
        CHECK.due("word()", x.asked(), 44);
        CHECK.fill(x, 1, 16, 1);
        x.shifts(1, 1, 16);
        CHECK.due("shifts()", x.asked(), 33);
        CHECK.row(x, 2, 3);
        x.plan(1, 4);
        CHECK.due("plan()", x.asked(), 3);
        x.cell(11, 3, 1, 0);
        CHECK.row(x, 3, 1, 11);
        x.courses(10, 2, 3);
        CHECK.due("courses()", x.asked(), 1);
    }

    // A scene in which each call of the face can be made without being refused.
    private static IceBoats scene() {
        IceBoats x = Fleet.only(0, 9, 10);
        CHECK.row(x, 0, 3, 3);
        CHECK.fill(x, 1, 16, 1);
        x.row(2, 0);
        CHECK.text(x, 0, "H1");
        x.look(1);
        x.say(1, 4, 44);
        x.tick();
        x.look(1);
        return x;
    }

    private static long callOf(int call, IceBoats x) {
        switch (call) {
            case 0: return x.row(3, 3);
            case 1: return x.tear(0);
            case 2: return x.copy(0, 0, 1, 0, 2);
            case 3: return x.text(1, 2);
            case 4: return x.put(0, 0, 76);
            case 5: return x.rock(63, true);
            case 6: return x.cell(5, 1, 2, 3);
            case 7: return x.chart(5, 5);
            case 8: return x.hole(5);
            case 9: return x.seed(5);
            case 10: return x.boat(5, 1, 5, 55);
            case 11: return x.go(0, 4);
            case 12: return x.tick();
            case 13: return x.look(2);
            case 14: return x.match(1);
            case 15: return x.home(0);
            case 16: return x.time(0, 63);
            case 17: return x.say(2, 3, 3);
            case 18: return x.tells(0, 4);
            case 19: return x.heard(0, 2);
            case 20: return x.knows(0, 2, 1, NONE);
            case 21: return x.allKnow(0, 6, 1);
            case 22: return x.fault(0);
            case 23: return x.rules(0, 0);
            case 24: return x.rule(0, 0);
            case 25: return x.asks(0);
            case 26: return x.odds(0, 0);
            case 27: return x.mark(3, Fleet.HOME);
            case 28: return x.count(1);
            case 29: return x.finding();
            case 30: return x.findings(1);
            case 31: return x.digest();
            case 32: return x.upper() + x.lower();
            case 33: return x.could(1);
            case 34: return x.mapped(63);
            default: return x.asked() + x.set();
        }
    }

    private static void askedByNoOthers() {
        CHECK.quote(41, "What the latest lay(), mean(), sea(), told(), looked(), word(), shifts(), plan(), courses() that was not refused told; 0 before.");
        for (int call = 0; call <= 35; call++) {
            IceBoats x = scene();
            x.told(1, 2);
            int before = x.asked();
            long answer = callOf(call, x);
            CHECK.due("call " + call + " is not refused", answer <= -1 && answer >= -6 ? 1 : 0, 0);
            CHECK.due("asked() stays by call " + call, x.asked(), before);
        }
    }

    private static void setByNoOthers() {
        CHECK.quote(42, "The set that the latest could(), mapped() that was not refused told; 0 before.");
        for (int call = 0; call <= 35; call++) {
            IceBoats x = scene();
            x.could(2);
            callOf(call, x);
            if (call != 33 && call != 34) {
                CHECK.due("set() stays by call " + call, x.set(), Fleet.cells(10));
            } else {
                CHECK.due("set() by call " + call, x.set(), Fleet.cells(9));
            }
        }
        IceBoats x = scene();
        x.could(2);
        x.lay(0, 0, 0);
        x.mean(0);
        x.sea(0, 0);
        x.told(0, 3);
        x.looked(0, 2);
        x.word(0, 3);
        x.shifts(1, 1, 1);
        x.row(3, 1);
        x.plan(7, 8);
        x.courses(0, 3, 2);
        CHECK.due("set() stays by those that tell by asked()", x.set(), Fleet.cells(10));
        CHECK.quote(43, "The upper number of the fraction that was told last; 0 before.");
        for (int call = 0; call <= 35; call++) {
            IceBoats y = scene();
            y.cell(1, 2, 1, 0);
            y.row(3, 1);
            y.lay(3, 0, 3);
            y.odds(0, 3);
            long upper = y.upper();
            long lower = y.lower();
            CHECK.due("3 by 4", 10 * upper + lower, 34);
            callOf(call, y);
            if (call != 26) {
                CHECK.due("upper() stays by call " + call, y.upper(), 3);
                CHECK.due("lower() stays by call " + call, y.lower(), 4);
            }
        }
    }

    private static void counts() {
        CHECK.quote(45, "0 THE TICK, 1 ABLE BOATS, 2 words, 3 LOOKS, 4 LOST ones (DEAD, too), 5 HOME ones, 6 ROWS, 7 TEXTS that are there.");
        for (int kind = 0; kind <= Fleet.HOME; kind++) {
            IceBoats x = Fleet.ofKind(kind, 9, 50);
            boolean able = kind <= Fleet.ANCHOR;
            boolean lost = kind == Fleet.LOST || kind == Fleet.DEAD;
            CHECK.due("THE TICK", x.count(0), 1);
            CHECK.due("ABLE with a " + kind, x.count(1), able ? 1 : 0);
            CHECK.due("LOST with a " + kind, x.count(4), lost ? 1 : 0);
            CHECK.due("HOME with a " + kind, x.count(5), kind == Fleet.HOME ? 6 : 5);
            CHECK.due("TEXTS", x.count(7), kind == Fleet.LOST ? 1 : 0);
        }
        IceBoats x = new IceBoats();
        x.row(0, 0);
        x.row(5, 40);
        x.row(5, 3);
        x.text(3, 0);
        CHECK.due("ROWS, one of them empty", x.count(6), 2);
        CHECK.due("TEXTS, empty", x.count(7), 1);
        x.tear(0);
        CHECK.due("ROWS", x.count(6), 1);
        x.say(0, 0, 0);
        x.say(0, 0, 0);
        x.look(0);
        x.boat(1, 0, 0, 0);
        x.look(1);
        CHECK.due("words that were not refused", x.count(2), 1);
        CHECK.due("LOOKS that were not refused", x.count(3), 1);
    }

    // Each v that the document names is in the digest: as it changes, so does the digest, in a way of its own.
    private static void digestOfEach() {
        CHECK.quote(48, "h = 17; then h = 31 h + v for each v: count() 0 to 7; of each CELL sea() 0 to 4; THE HOLE; of each BOAT told() 0 to 5, COULD, rule() 0 to 3; of each word word() 0 to 3, heard() of BOATS 0 to 5; of each LOOK looked() 0 to 3; of each ROW its size (-1: missing) and places, of each TEXT likewise.");
        for (int call = 0; call <= 35; call++) {
            IceBoats x = scene();
            callOf(call, x);
            CHECK.due("behind call " + call, x.digest(), digestOf(x, call == 8 ? 5 : 0, rowsOf(call), textsOf(call)));
        }
    }

    private static int[][] rowsOf(int call) {
        int[] ones = new int[16];
        java.util.Arrays.fill(ones, 1);
        if (call == 2) {
            ones[0] = 3;
            ones[1] = 3;
        }
        return new int[][] {call == 1 ? null : new int[] {3, 3}, ones, {}, call == 0 ? new int[] {0, 0, 0} : null, null, null};
    }

    private static int[][] textsOf(int call) {
        return new int[][] {{call == 4 ? 76 : 72, 49}, call == 3 ? new int[] {32, 32} : null, null, null};
    }

    private static long digestOf(IceBoats x, int hole, int[][] rows, int[][] texts) {
        long h = 17;
        for (int what = 0; what < 8; what++) {
            h = 31 * h + x.count(what);
        }
        for (int c = 0; c < 64; c++) {
            for (int what = 0; what < 5; what++) {
                x.sea(c, what);
                h = 31 * h + x.asked();
            }
        }
        h = 31 * h + hole;
        for (int b = 0; b < 6; b++) {
            for (int what = 0; what < 6; what++) {
                h = 31 * h + Fleet.told(x, b, what);
            }
            h = 31 * h + Fleet.could(x, b);
            for (int k = 0; k < 4; k++) {
                h = 31 * h + x.rule(b, k);
            }
        }
        for (int w = 0; w < x.count(2); w++) {
            for (int what = 0; what < 4; what++) {
                x.word(w, what);
                h = 31 * h + x.asked();
            }
            for (int b = 0; b < 6; b++) {
                h = 31 * h + x.heard(w, b);
            }
        }
        for (int l = 0; l < x.count(3); l++) {
            for (int what = 0; what < 4; what++) {
                x.looked(l, what);
                h = 31 * h + x.asked();
            }
        }
        for (int[] row : rows) {
            h = withPlaces(h, row);
        }
        for (int[] text : texts) {
            h = withPlaces(h, text);
        }
        return h;
    }

    private static long withPlaces(long start, int[] places) {
        long h = 31 * start + (places == null ? -1 : places.length);
        for (int i = 0; places != null && i < places.length; i++) {
            h = 31 * h + places[i];
        }
        return h;
    }

    private static void digestInOrder() {
        CHECK.quote(48, "of each ROW its size (-1: missing) and places, of each TEXT likewise.");
        IceBoats x = new IceBoats();
        int[][] rows = {{1, -2}, null, {}, {Integer.MIN_VALUE}, null, {7}};
        int[][] texts = {null, {200, -1, 0}, {}, {65}};
        for (int r = 0; r < 6; r++) {
            if (rows[r] != null) {
                CHECK.row(x, r, rows[r]);
            }
        }
        for (int t = 0; t < 4; t++) {
            if (texts[t] != null) {
                x.text(t, texts[t].length);
                for (int i = 0; i < texts[t].length; i++) {
                    x.put(t, i, texts[t][i]);
                    texts[t][i] = (byte) texts[t][i];
                }
            }
        }
        CHECK.due("digest()", x.digest(), digestOf(x, 0, rows, texts));
    }

    private static void askingChangesNothing() {
        CHECK.quote(48, "`long digest()`");
        IceBoats x = scene();
        x.told(1, 2);
        x.could(2);
        x.odds(0, 0);
        x.mean(5);
        int asked = x.asked();
        long set = x.set();
        long first = x.digest();
        CHECK.due("twice alike", x.digest(), first);
        CHECK.due("asked()", x.asked(), asked);
        CHECK.due("set()", x.set(), set);
        CHECK.due("finding()", x.finding(), 1);
        CHECK.due("findings(1)", x.findings(1), 1);
    }
}
