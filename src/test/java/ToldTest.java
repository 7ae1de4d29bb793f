import java.lang.reflect.Constructor;
import java.lang.reflect.Field;
import java.lang.reflect.Method;
import java.lang.reflect.Modifier;
import java.util.ArrayList;
import java.util.Arrays;
import java.util.TreeSet;

/** Promises 1 and 41 to 48: a new object, and what is told; the public face. */
final class ToldTest {
    private static final Check CHECK = new Check("told");

    public static void main(String[] args) {
        constants();
        publicFace();
        newObject();
        asked();
        set();
        fractions();
        counts();
        findings();
        digestOfNew();
        digestOfAll();
        CHECK.end();
    }

    private static void constants() {
        CHECK.due("BAD", IceBoats.BAD, -1);
        CHECK.due("FULL", IceBoats.FULL, -2);
        CHECK.due("FINDING", IceBoats.FINDING, -3);
        CHECK.due("STATE", IceBoats.STATE, -4);
        CHECK.due("SPENT", IceBoats.SPENT, -6);
        CHECK.due("NONE", IceBoats.NONE, -9);
    }

    private static void publicFace() {
        String all = "allKnow(int,int,int)int asked()int asks(int)int boat(int,int,int,int)int cell(int,int,int,int)int "
            + "chart(int,int)int copy(int,int,int,int,int)int could(int)int count(int)int courses(int,int,int)int digest()long "
            + "fault(int)int finding()int findings(int)int go(int,int)int heard(int,int)int hole(int)int home(int)int "
            + "knows(int,int,int,int)int lay(int,int,int)int look(int)int looked(int,int)int lower()long mapped(int)int "
            + "mark(int,int)int match(int)int mean(int)int odds(int,int)int plan(int,int)int put(int,int,int)int "
            + "rock(int,boolean)int row(int,int)int rule(int,int)int rules(int,int)int say(int,int,int)int sea(int,int)int "
            + "seed(int)int set()long shifts(int,int,int)int tear(int)int tells(int,int)int text(int,int)int tick()int "
            + "time(int,int)int told(int,int)int upper()long word(int,int)int";
        TreeSet<String> due = new TreeSet<>(Arrays.asList(all.split(" ")));
        TreeSet<String> got = new TreeSet<>();
        int hidden = 0;
        for (Method m : IceBoats.class.getDeclaredMethods()) {
            if (Modifier.isPrivate(m.getModifiers()) || m.isSynthetic()) {
                hidden++;
                continue;
            }
            StringBuilder sign = new StringBuilder(m.getName()).append('(');
            for (Class<?> p : m.getParameterTypes()) {
                sign.append(sign.charAt(sign.length() - 1) == '(' ? "" : ",").append(p.getName());
            }
            got.add(sign.append(')').append(m.getReturnType().getName()).toString());
            CHECK.due(m.getName() + " is public", Modifier.isPublic(m.getModifiers()) && !Modifier.isStatic(m.getModifiers()) ? 1 : 0, 1);
        }
        CHECK.due("private ones", hidden > 0 ? 1 : 0, 1);
        CHECK.due("methods " + got + " as due", got.equals(due) ? 1 : 0, 1);
        int publicFields = 0;
        for (Field f : IceBoats.class.getDeclaredFields()) {
            publicFields += Modifier.isPrivate(f.getModifiers()) ? 0 : 1;
        }
        CHECK.due("constants", publicFields, 6);
        Constructor<?>[] makers = IceBoats.class.getDeclaredConstructors();
        CHECK.due("one constructor", makers.length, 1);
        CHECK.due("public", Modifier.isPublic(makers[0].getModifiers()) ? 1 : 0, 1);
        CHECK.due("final", Modifier.isFinal(IceBoats.class.getModifiers()) ? 1 : 0, 1);
    }

    private static void newObject() {
        IceBoats x = new IceBoats();
        int[] due = {0, 6, 0, 0, 0, 0, 0, 0};
        for (int what = 0; what < 8; what++) {
            CHECK.due("new, count(" + what + ")", x.count(what), due[what]);
        }
        CHECK.due("asked()", x.asked(), 0);
        CHECK.due("set()", x.set(), 0);
        CHECK.due("upper()", x.upper(), 0);
        CHECK.due("lower()", x.lower(), 1);
        CHECK.due("finding()", x.finding(), 0);
        for (int f = 1; f <= 5; f++) {
            CHECK.due("findings(" + f + ")", x.findings(f), 0);
        }
        IceBoats y = new IceBoats();
        y.row(0, 3);
        y.tick();
        y.chart(5, 5);
        CHECK.due("another object's calls are not seen", x.digest(), new IceBoats().digest());
    }

    // Only the calls that the document names tell by asked()
    private static void asked() {
        IceBoats x = new IceBoats();
        CHECK.row(x, 0, 5, 6);
        x.lay(0, 1, 9);
        CHECK.due("lay", x.asked(), 6);
        x.mean(0);
        CHECK.due("mean", x.asked(), 7);
        x.sea(0, 2);
        CHECK.due("sea", x.asked(), 1);
        x.told(0, 2);
        CHECK.due("told", x.asked(), 100);
        x.cell(0, 0, 1, 8);
        x.look(0);
        x.looked(0, 1);
        CHECK.due("looked", x.asked(), 8);
        x.say(0, 4, 44);
        x.word(0, 3);
        CHECK.due("word", x.asked(), 44);
        x.row(1, 16);
        x.shifts(1, 1, 16);
        CHECK.due("shifts", x.asked(), 33);
        CHECK.row(x, 2, 3);
        x.plan(1, 4);
        CHECK.due("plan", x.asked(), 3);
        x.cell(0, 3, 1, 8);
        CHECK.row(x, 3, 1, 0);
        CHECK.row(x, 4, 0);
        x.courses(0, 4, 3);
        CHECK.due("courses", x.asked(), 1);
        x.row(5, 9);
        x.tear(5);
        x.copy(0, 0, 0, 0, 1);
        x.text(0, 1);
        x.put(0, 0, 7);
        x.rock(60, true);
        x.chart(1, 1);
        x.hole(0);
        x.seed(3);
        x.boat(1, 1, 1, 9);
        x.mark(1, 1);
        x.could(0);
        x.go(0, 1);
        x.tick();
        x.look(1);
        x.match(1);
        x.time(0, 5);
        x.heard(0, 1);
        x.knows(0, 0, 1, 1);
        x.allKnow(0, 1, 1);
        x.tells(0, 4);
        x.fault(0);
        x.rule(0, 0);
        x.asks(0);
        x.mapped(3);
        x.odds(0, 4);
        x.count(1);
        x.digest();
        x.plan(1, 32);
        x.lay(5, 0, 7);
        CHECK.due("none of the others, none refused", x.asked(), 1);
        x.plan(1, 0);
        CHECK.due("plan of none", x.asked(), 0);
    }

    private static void set() {
        IceBoats x = new IceBoats();
        x.boat(0, 0, 63, 9);
        x.could(0);
        CHECK.due("could", x.set(), Long.MIN_VALUE);
        x.could(6);
        CHECK.due("refused", x.set(), Long.MIN_VALUE);
        x.mapped(1);
        CHECK.due("mapped", x.set(), 0);
        x.could(1);
        x.look(0);
        x.match(0);
        x.told(0, 3);
        CHECK.due("not match, not told", x.set(), 1);
    }

    private static void fractions() {
        IceBoats x = new IceBoats();
        x.cell(0, 3, 1, 0);
        CHECK.row(x, 0, 0, 0);
        x.odds(0, 0);
        CHECK.due("1 by", x.upper(), 1);
        CHECK.due("16", x.lower(), 16);
        x.odds(0, 1);
        x.mean(0);
        CHECK.due("refused, upper()", x.upper(), 1);
        CHECK.due("refused, lower()", x.lower(), 16);
        x.odds(9, 0);
        CHECK.due("0 by", x.upper(), 0);
        CHECK.due("1", x.lower(), 1);
    }

    private static void counts() {
        IceBoats x = new IceBoats();
        CHECK.refused(x, "count(8)", () -> x.count(8), IceBoats.BAD);
        CHECK.refused(x, "count(-1)", () -> x.count(-1), IceBoats.BAD);
        x.home(0);
        x.home(1);
        x.boat(2, 0, 0, 0);
        CHECK.text(x, 2, "L0");
        x.rules(3, 2);
        x.tick();
        x.look(4);
        x.look(4);
        x.look(4);
        x.say(4, 0, 0);
        x.row(1, 0);
        x.row(2, 5);
        x.row(3, 5);
        x.text(3, 0);
        x.text(0, 0);
        int[] due = {1, 2, 1, 3, 2, 2, 3, 3};
        for (int what = 0; what < 8; what++) {
            CHECK.due("count(" + what + ")", x.count(what), due[what]);
        }
    }

    private static void findings() {
        IceBoats x = new IceBoats();
        CHECK.refused(x, "findings(0)", () -> x.findings(0), IceBoats.BAD);
        CHECK.refused(x, "findings(6)", () -> x.findings(6), IceBoats.BAD);
        CHECK.refused(x, "findings(-1)", () -> x.findings(-1), IceBoats.BAD);
        x.mean(0);
        x.mean(0);
        CHECK.due("NOTHING", x.finding(), 1);
        x.row(0, 0);
        x.lay(0, 0, 0);
        CHECK.due("BEYOND", x.finding(), 2);
        x.mark(0, 1);
        CHECK.due("UNLIKE", x.finding(), 3);
        x.mean(0);
        CHECK.due("NOUGHT", x.finding(), 4);
        x.row(0, -1);
        CHECK.due("SIZE", x.finding(), 5);
        x.row(0, 4);
        x.row(9, 4);
        CHECK.due("the latest one stays", x.finding(), 5);
        int[] due = {2, 1, 1, 1, 1};
        for (int f = 1; f <= 5; f++) {
            CHECK.due("findings(" + f + ")", x.findings(f), due[f - 1]);
        }
    }

    private static long more(long h, long... all) {
        for (long v : all) {
            h = 31 * h + v;
        }
        return h;
    }

    private static void digestOfNew() {
        long h = more(17, 0, 6, 0, 0, 0, 0, 0, 0);
        for (int c = 0; c < 64; c++) {
            h = more(h, 0, 0, 1, 0, -9);
        }
        h = more(h, 0);
        for (int b = 0; b < 6; b++) {
            h = more(h, 0, 0, 100, 1, 0, 0, 1, -9, -9, -9, -9);
        }
        h = more(h, -1, -1, -1, -1, -1, -1, -1, -1, -1, -1);
        CHECK.due("digest of a new object", new IceBoats().digest(), h);
    }

    // Each of these changes what digest() tells; what it tells is made again from the other calls
    private static void digestOfAll() {
        IceBoats x = new IceBoats();
        long last = agree(x, 0);
        x.row(4, 3);
        last = agree(x, last);
        x.lay(4, 2, -70000);
        last = agree(x, last);
        x.text(2, 2);
        last = agree(x, last);
        x.put(2, 1, 200);
        last = agree(x, last);
        x.rock(9, true);
        last = agree(x, last);
        x.cell(0, 4, 3, 8);
        last = agree(x, last);
        x.chart(63, 0);
        last = agree(x, last);
        x.boat(5, 2, 63, 77);
        last = agree(x, last);
        x.look(5);
        last = agree(x, last);
        x.look(1);
        last = agree(x, last);
        x.say(1, 2, 1);
        last = agree(x, last);
        x.tick();
        last = agree(x, last);
        CHECK.text(x, 2, "W7H3");
        x.rules(3, 2);
        last = agree(x, last);
        x.hole(63);
        last = agree(x, last);
        x.home(5);
        agree(x, last);
    }

    private static long agree(IceBoats x, long last) {
        long digest = x.digest();
        CHECK.due("digest changed", digest == last ? 0 : 1, 1);
        long h = 17;
        for (int what = 0; what < 8; what++) {
            h = more(h, x.count(what));
        }
        for (int c = 0; c < 64; c++) {
            for (int what = 0; what < 5; what++) {
                x.sea(c, what);
                h = more(h, x.asked());
            }
        }
        int hole = x.hole(1);
        x.hole(hole);
        h = more(h, hole);
        for (int b = 0; b < 6; b++) {
            for (int what = 0; what < 6; what++) {
                x.told(b, what);
                h = more(h, x.asked());
            }
            x.could(b);
            h = more(h, x.set(), x.rule(b, 0), x.rule(b, 1), x.rule(b, 2), x.rule(b, 3));
        }
        for (int w = 0; w < x.count(2); w++) {
            for (int what = 0; what < 4; what++) {
                x.word(w, what);
                h = more(h, x.asked());
            }
            for (int b = 0; b < 6; b++) {
                h = more(h, x.heard(w, b));
            }
        }
        for (int l = 0; l < x.count(3); l++) {
            for (int what = 0; what < 4; what++) {
                x.looked(l, what);
                h = more(h, x.asked());
            }
        }
        for (int r = 0; r < 6; r++) {
            h = digestRow(x, h, r);
        }
        for (int t = 0; t < 4; t++) {
            h = digestText(x, h, t);
        }
        CHECK.due("digest made again", digest, h);
        CHECK.due("digest changes nothing", x.digest(), digest);
        return digest;
    }

    // The call that is refused behind the last place tells whether there is a ROW at all
    private static long digestRow(IceBoats x, long h, int r) {
        ArrayList<Integer> places = new ArrayList<>();
        while (x.lay(r, places.size(), 0) == 1) {
            int was = x.asked();
            x.lay(r, places.size(), was);
            places.add(was);
        }
        return digestPlaces(x, h, places);
    }

    private static long digestText(IceBoats x, long h, int t) {
        ArrayList<Integer> places = new ArrayList<>();
        for (int was = x.put(t, 0, 0); was != IceBoats.FINDING; was = x.put(t, places.size(), 0)) {
            x.put(t, places.size(), was - 1000);
            places.add(was - 1000);
        }
        return digestPlaces(x, h, places);
    }

    private static long digestPlaces(IceBoats x, long h, ArrayList<Integer> places) {
        h = more(h, x.finding() == Check.NOTHING ? -1 : places.size());
        for (int v : places) {
            h = more(h, v);
        }
        return h;
    }
}
