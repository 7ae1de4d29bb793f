import java.math.BigInteger;
import java.util.ArrayList;
import java.util.Arrays;
import java.util.List;
import java.util.TreeMap;
import java.util.TreeSet;

/**
 * The document once more, with the Java library and by other means (sets, all rows one by one, TIMES by trying until
 * nothing gets less), for FuzzTest to compare IceBoats with. A refusal is thrown here and told by the caller.
 */
final class NaiveBoats {
    static final int NONE = -9;

    static final class Refused extends RuntimeException {
        private static final long serialVersionUID = 1L;
        final int answer;
        final int finding;

        Refused(int answer, int finding) {
            this.answer = answer;
            this.finding = finding;
        }
    }

    static final class Vessel {
        int kind = 0, cell = 0, power = 100, told = NONE, heardAt = 0, since = 0;
        TreeSet<Integer> could = new TreeSet<>(List.of(0));
        TreeMap<Character, Integer> rules = new TreeMap<>();

        boolean able() {
            return kind < 4;
        }
    }

    static final class Saying {
        int kind, by, at, v;
        TreeSet<Integer> could;
        int[] due = new int[6];
        int[] how = new int[6];
    }

    static final class Sight {
        int cell, ice, at, by;
        TreeSet<Integer> held = new TreeSet<>();
    }

    final List<List<Integer>> rows = new ArrayList<>(Arrays.asList(null, null, null, null, null, null));
    final List<List<Byte>> texts = new ArrayList<>(Arrays.asList(null, null, null, null));
    final boolean[] rock = new boolean[64];
    final int[] current = new int[64], warmth = new int[64], ice = new int[64], chart = new int[64];
    final Vessel[] boats = new Vessel[6];
    final List<Saying> words = new ArrayList<>();
    final List<Sight> looks = new ArrayList<>();
    final int[] findings = new int[6];
    int hole, now, lots = 1, asked, finding;
    long set, upper, lower = 1;

    NaiveBoats() {
        Arrays.fill(warmth, 1);
        Arrays.fill(chart, NONE);
        for (int b = 0; b < 6; b++) {
            boats[b] = new Vessel();
        }
    }

    private static void bad(boolean is) {
        refuse(is, -1, 0);
    }

    private static void state(boolean is) {
        refuse(is, -4, 0);
    }

    private static void find(boolean is, int finding) {
        refuse(is, -3, finding);
    }

    private static void refuse(boolean is, int answer, int finding) {
        if (is) {
            throw new Refused(answer, finding);
        }
    }

    private static void in(int v, int from, int to) {
        bad(v < from || v > to);
    }

    private int tell(int v) {
        asked = v;
        return 1;
    }

    private int tellSet(TreeSet<Integer> cells) {
        set = bits(cells);
        return cells.size();
    }

    private static long bits(TreeSet<Integer> cells) {
        long all = 0;
        for (int c : cells) {
            all += 1L << c;
        }
        return all;
    }

    private List<Integer> theRow(int r) {
        find(rows.get(r) == null, 1);
        return rows.get(r);
    }

    // ---- 1

    int row(int r, int n) {
        in(r, 0, 5);
        bad(n > 40);
        find(n < 0, 5);
        rows.set(r, new ArrayList<>());
        for (int i = 0; i < n; i++) {
            rows.get(r).add(0);
        }
        return n;
    }

    int lay(int r, int i, int v) {
        in(r, 0, 5);
        List<Integer> row = theRow(r);
        find(i < 0 || i >= row.size(), 2);
        return tell(row.set(i, v));
    }

    int tear(int r) {
        in(r, 0, 5);
        theRow(r);
        rows.set(r, null);
        return 1;
    }

    int copy(int r, int i, int to, int j, int n) {
        in(r, 0, 5);
        in(to, 0, 5);
        find(n < 0, 5);
        List<Integer> from = theRow(r);
        List<Integer> into = theRow(to);
        find(i < 0 || j < 0 || (long) i + n > from.size() || (long) j + n > into.size(), 2);
        List<Integer> taken = new ArrayList<>(from.subList(i, i + n));
        for (int k = 0; k < n; k++) {
            into.set(j + k, taken.get(k));
        }
        return 1;
    }

    int mean(int r) {
        in(r, 0, 5);
        List<Integer> row = theRow(r);
        find(row.isEmpty(), 4);
        BigInteger sum = BigInteger.ZERO;
        for (int v : row) {
            sum = sum.add(BigInteger.valueOf(v));
        }
        return tell(sum.divide(BigInteger.valueOf(row.size())).intValueExact());
    }

    int text(int t, int n) {
        in(t, 0, 3);
        bad(n > 40);
        find(n < 0, 5);
        texts.set(t, new ArrayList<>());
        for (int i = 0; i < n; i++) {
            texts.get(t).add((byte) ' ');
        }
        return n;
    }

    int put(int t, int i, int v) {
        in(t, 0, 3);
        find(texts.get(t) == null, 1);
        find(i < 0 || i >= texts.get(t).size(), 2);
        return texts.get(t).set(i, (byte) v) + 1000;
    }

    int rock(int c, boolean is) {
        in(c, 0, 63);
        for (Vessel boat : boats) {
            state(is && boat.cell == c);
        }
        state(is && hole == c);
        int was = rock[c] ? 1 : 0;
        rock[c] = is;
        return was;
    }

    int cell(int c, int way, int warm, int above) {
        in(c, 0, 63);
        in(way, 0, 4);
        in(warm, 1, 4);
        in(above, 0, 9);
        current[c] = way;
        warmth[c] = warm;
        ice[c] = above;
        return 1;
    }

    int sea(int c, int what) {
        in(c, 0, 63);
        in(what, 0, 4);
        return tell(List.of(rock[c] ? 1 : 0, current[c], warmth[c], ice[c], chart[c]).get(what));
    }

    int chart(int c, int above) {
        in(c, 0, 63);
        bad(above != NONE && (above < 0 || above > 9));
        chart[c] = above;
        return 1;
    }

    int hole(int c) {
        in(c, 0, 63);
        state(rock[c]);
        int was = hole;
        hole = c;
        return was;
    }

    int seed(int l) {
        lots = l;
        return 1;
    }

    // ---- 2

    int boat(int b, int kind, int c, int power) {
        in(b, 0, 5);
        in(kind, 0, 3);
        in(c, 0, 63);
        in(power, 0, 1000);
        state(rock[c]);
        Vessel boat = boats[b];
        boat.kind = kind;
        boat.cell = c;
        boat.power = power;
        boat.could = new TreeSet<>(List.of(c));
        boat.told = NONE;
        boat.heardAt = now;
        boat.since = now;
        return 1;
    }

    private int of(int b, int what) {
        Vessel boat = boats[b];
        int held = 0;
        for (Sight look : looks) {
            held += look.held.contains(b) ? 1 : 0;
        }
        return List.of(boat.kind, boat.cell, boat.power, boat.could.size(), held, boat.heardAt).get(what);
    }

    int told(int b, int what) {
        in(b, 0, 5);
        in(what, 0, 5);
        return tell(of(b, what));
    }

    int mark(int b, int kind) {
        in(b, 0, 5);
        in(kind, 1, 6);
        Vessel boat = boats[b];
        boolean is = boat.kind == kind || (kind == 2 && boat.kind == 3) || (kind == 4 && boat.kind == 5);
        find(!is, 3);
        int made = 0;
        int alone = 0;
        for (Sight look : looks) {
            made += look.by == b ? 1 : 0;
            alone += look.held.equals(new TreeSet<>(List.of(b))) ? 1 : 0;
        }
        int said = 0;
        for (Saying word : words) {
            said += word.by == b ? 1 : 0;
        }
        return List.of(made, said, boat.since, boat.since, alone, boat.power).get(kind - 1);
    }

    int could(int b) {
        in(b, 0, 5);
        return tellSet(boats[b].could);
    }

    int go(int b, int way) {
        in(b, 0, 5);
        in(way, 0, 4);
        state(!boats[b].able());
        boats[b].told = way;
        return 1;
    }

    int lead(int c, int way) {
        int x = c % 8;
        int y = c / 8;
        if (way == 1) {
            y--;
        } else if (way == 2) {
            x--;
        } else if (way == 3) {
            x++;
        } else if (way == 4) {
            y++;
        }
        return x < 0 || x > 7 || y < 0 || y > 7 || rock[8 * y + x] ? c : 8 * y + x;
    }

    int tick() {
        state(now == 999);
        now++;
        for (Vessel boat : boats) {
            if (!boat.able()) {
                continue;
            }
            int way = Math.max(boat.told, 0);
            boat.told = NONE;
            if (boat.kind == 3) {
                continue;
            }
            way = boat.power < 2 ? 0 : way;
            boat.power -= way == 0 ? 0 : 2;
            boat.cell = lead(boat.cell, way);
            lots = lots * 1103515245 + 12345;
            int lot = ((lots >> 16) & 32767) % 4;
            boat.cell = lot == 0 ? boat.cell : lead(boat.cell, current[boat.cell]);
            TreeSet<Integer> next = new TreeSet<>();
            for (int c : boat.could) {
                int to = lead(c, way);
                next.add(to);
                next.add(lead(to, current[to]));
            }
            boat.could = next;
        }
        int heard = hearAll();
        for (Vessel boat : boats) {
            if (boat.able() && boat.power == 0) {
                boat.kind = 5;
                boat.since = now;
            } else if (boat.able() && boat.rules.containsKey('L') && now - boat.heardAt > boat.rules.get('L')) {
                boat.kind = 4;
                boat.since = now;
            }
        }
        return heard;
    }

    private int hearAll() {
        int heard = 0;
        for (int b = 0; b < 6; b++) {
            List<Saying> come = new ArrayList<>();
            for (Saying word : words) {
                if (word.how[b] == NONE && word.due[b] == now) {
                    come.add(word);
                }
            }
            for (Saying word : come) {
                if (come.size() > 1) {
                    word.how[b] = -10;
                } else if (!boats[b].able()) {
                    word.how[b] = -12;
                } else {
                    word.how[b] = now;
                    hear(boats[b], b, word);
                    heard++;
                }
            }
        }
        return heard;
    }

    private void hear(Vessel boat, int b, Saying word) {
        boat.heardAt = now;
        if (word.kind == 1) {
            TreeSet<Integer> kept = new TreeSet<>();
            for (int from : word.could) {
                int[] times = times(from);
                for (int c : boat.could) {
                    if (times[c] == now - word.at || (times[c] == 0 && now - word.at == 1)) {
                        kept.add(c);
                    }
                }
            }
            boat.could = kept.isEmpty() ? boat.could : kept;
        } else if (word.kind == 2) {
            looks.get(word.v).held.add(b);
        } else if (word.kind == 3) {
            boat.told = boat.told == NONE ? word.v : boat.told;
        } else if (word.kind == 4) {
            boat.told = boat.told == NONE ? nearer(boat, word.v) : boat.told;
        } else if (word.kind == 5) {
            boat.told = boat.told == NONE ? nearer(boat, hole) : boat.told;
        }
    }

    private static int steps(int a, int b) {
        return Math.abs(a % 8 - b % 8) + Math.abs(a / 8 - b / 8);
    }

    private int nearer(Vessel boat, int to) {
        int from = boat.could.first();
        for (int way = 1; way <= 4; way++) {
            if (steps(lead(from, way), to) < steps(from, to)) {
                return way;
            }
        }
        return NONE;
    }

    int look(int b) {
        in(b, 0, 5);
        int due = boats[b].kind == 1 ? 1 : 4;
        state(!boats[b].able() || boats[b].power < due);
        refuse(looks.size() == 40, -2, 0);
        boats[b].power -= due;
        Sight look = new Sight();
        look.cell = boats[b].cell;
        look.ice = ice[look.cell];
        look.at = now;
        look.by = b;
        look.held.add(b);
        looks.add(look);
        return looks.size() - 1;
    }

    private int of(Sight look, int what) {
        int held = 0;
        for (int b : look.held) {
            held += 1 << b;
        }
        return List.of(look.cell, look.ice, held, look.at).get(what);
    }

    int looked(int l, int what) {
        in(l, 0, looks.size() - 1);
        in(what, 0, 3);
        return tell(of(looks.get(l), what));
    }

    int match(int b) {
        in(b, 0, 5);
        Sight latest = null;
        for (Sight look : looks) {
            latest = look.by == b ? look : latest;
        }
        state(latest == null || latest.at != now);
        TreeSet<Integer> kept = new TreeSet<>();
        for (int c : boats[b].could) {
            if (chart[c] == NONE || chart[c] == latest.ice) {
                kept.add(c);
            }
        }
        boats[b].could = kept.isEmpty() ? boats[b].could : kept;
        return boats[b].could.size();
    }

    int home(int b) {
        in(b, 0, 5);
        state(!boats[b].able() || boats[b].cell != hole);
        boats[b].kind = 6;
        return 1;
    }

    // ---- 3

    private int[] times(int from) {
        int[] times = new int[64];
        Arrays.fill(times, 100000);
        times[from] = 0;
        boolean less = true;
        while (less) {
            less = false;
            for (int c = 0; c < 64; c++) {
                for (int way = 1; way <= 4; way++) {
                    int to = lead(c, way);
                    if (to != c && times[c] + warmth[to] < times[to]) {
                        times[to] = times[c] + warmth[to];
                        less = true;
                    }
                }
            }
        }
        return times;
    }

    int time(int a, int b) {
        in(a, 0, 63);
        in(b, 0, 63);
        bad(rock[a] || rock[b]);
        int t = times(a)[b];
        find(t == 100000, 1);
        return t;
    }

    int say(int b, int kind, int v) {
        in(b, 0, 5);
        in(kind, 0, 5);
        bad(kind == 2 && (v < 0 || v >= looks.size()));
        bad(kind == 3 && (v < 0 || v > 4));
        bad(kind == 4 && (v < 0 || v > 63));
        state(!boats[b].able() || boats[b].power < 3);
        for (Saying word : words) {
            state(word.by == b && word.at == now);
        }
        state(kind == 2 && !looks.get(v).held.contains(b));
        refuse(words.size() == 40, -2, 0);
        boats[b].power -= 3;
        Saying word = new Saying();
        word.kind = kind;
        word.by = b;
        word.at = now;
        word.v = kind >= 2 && kind <= 4 ? v : 0;
        word.could = boats[b].could;
        int[] times = times(boats[b].cell);
        for (int o = 0; o < 6; o++) {
            int t = times[boats[o].cell];
            boolean comes = o != b && boats[o].able() && t <= 12;
            word.how[o] = comes ? NONE : -11;
            word.due[o] = now + (t == 0 ? 1 : t);
        }
        words.add(word);
        return words.size() - 1;
    }

    private static int of(Saying word, int what) {
        return List.of(word.kind, word.by, word.at, word.v).get(what);
    }

    int word(int w, int what) {
        in(w, 0, words.size() - 1);
        in(what, 0, 3);
        return tell(of(words.get(w), what));
    }

    int tells(int w, int kind) {
        in(w, 0, words.size() - 1);
        in(kind, 1, 5);
        Saying word = words.get(w);
        find(word.kind != kind && !(kind == 3 && word.kind > 3), 3);
        if (kind == 1) {
            return word.could.size();
        }
        if (kind == 2) {
            return looks.get(word.v).ice;
        }
        if (kind == 4) {
            return word.v;
        }
        if (kind == 5) {
            return steps(boats[word.by].cell, hole);
        }
        return (int) Arrays.stream(word.how).filter(h -> h >= 0).count();
    }

    int heard(int w, int b) {
        in(w, 0, words.size() - 1);
        in(b, 0, 5);
        return words.get(w).how[b];
    }

    // a chain of BOATS, the one that KNOWS first
    private int known(Saying word, int... chain) {
        int a = chain[0];
        if (chain.length == 1) {
            return word.by == a ? word.at : word.how[a] >= 0 ? word.how[a] : NONE;
        }
        int from = known(word, Arrays.copyOfRange(chain, 1, chain.length));
        if (a == chain[1] || from == NONE) {
            return from;
        }
        TreeSet<Integer> at = new TreeSet<>();
        for (Saying other : words) {
            if (other.by == chain[1] && other.at >= from && other.how[a] >= 0) {
                at.add(other.how[a]);
            }
        }
        return at.isEmpty() ? NONE : at.first();
    }

    int knows(int w, int a, int b, int c) {
        in(w, 0, words.size() - 1);
        in(a, 0, 5);
        bad(b != NONE && (b < 0 || b > 5));
        bad(c != NONE && (c < 0 || c > 5));
        bad(b == NONE && c != NONE);
        Saying word = words.get(w);
        return b == NONE ? known(word, a) : c == NONE ? known(word, a, b) : known(word, a, b, c);
    }

    int allKnow(int w, int boatBits, int deep) {
        in(w, 0, words.size() - 1);
        in(boatBits, 1, 63);
        in(deep, 1, 3);
        int latest = -1;
        for (int i = 0; i < 216; i++) {
            int[] chain = {i / 36, i / 6 % 6, i % 6};
            if ((boatBits >> chain[0] & boatBits >> chain[1] & boatBits >> chain[2] & 1) == 0) {
                continue;
            }
            int from = known(words.get(w), Arrays.copyOf(chain, deep));
            if (from == NONE) {
                return NONE;
            }
            latest = Math.max(latest, from);
        }
        return latest;
    }

    // ---- 4

    private int faultOf(List<Byte> text, TreeMap<Character, Integer> into) {
        StringBuilder all = new StringBuilder();
        for (byte v : text) {
            all.append((char) (v & 255));
        }
        int at = 0;
        while (at < all.length()) {
            String rest = all.substring(at);
            if (rest.charAt(0) == ' ') {
                at++;
            } else if (rest.matches("(?s)[HLWE][0-9].*")) {
                String digits = rest.replaceFirst("(?s)^.([0-9]{1,3}).*$", "$1");
                at += 1 + digits.length();
                int n = Integer.parseInt(digits);
                if (n == 0 && "WE".indexOf(rest.charAt(0)) >= 0) {
                    return at;
                }
                into.put(rest.charAt(0), n);
            } else {
                return "HLWE".indexOf(rest.charAt(0)) >= 0 ? at + 1 : at;
            }
        }
        return NONE;
    }

    int fault(int t) {
        in(t, 0, 3);
        find(texts.get(t) == null, 1);
        return faultOf(texts.get(t), new TreeMap<>());
    }

    int rules(int b, int t) {
        in(b, 0, 5);
        in(t, 0, 3);
        find(texts.get(t) == null, 1);
        TreeMap<Character, Integer> read = new TreeMap<>();
        state(faultOf(texts.get(t), read) != NONE);
        boats[b].rules = read;
        return read.size();
    }

    int rule(int b, int what) {
        in(b, 0, 5);
        in(what, 0, 3);
        return boats[b].rules.getOrDefault("HLWE".charAt(what), NONE);
    }

    int asks(int b) {
        in(b, 0, 5);
        Vessel boat = boats[b];
        state(!boat.able());
        if (boat.rules.containsKey('H') && boat.power <= boat.rules.get('H') + 2 * steps(boat.could.first(), hole)) {
            return 10 + Math.max(nearer(boat, hole), 0);
        }
        if (boat.rules.containsKey('W') && now % boat.rules.get('W') == 0) {
            return 2;
        }
        return boat.rules.containsKey('E') && now % boat.rules.get('E') == 0 ? 3 : 0;
    }

    // ---- 5

    int shifts(int one, int other, int k) {
        in(one, 0, 5);
        in(other, 0, 5);
        in(k, 1, 16);
        List<Integer> a = theRow(one);
        List<Integer> b = theRow(other);
        find(a.size() != 16 || b.size() != 16, 5);
        for (int i = 0; i < 16; i++) {
            find(!"0123456789".contains("" + a.get(i)) && a.get(i) != NONE || a.get(i) > 9, 3);
            find(!"0123456789".contains("" + b.get(i)) && b.get(i) != NONE || b.get(i) > 9, 3);
        }
        List<Integer> agree = new ArrayList<>();
        for (int y = -3; y <= 3; y++) {
            for (int x = -3; x <= 3; x++) {
                int both = 0;
                int unlike = 0;
                for (int j = Math.max(0, -y); j < Math.min(4, 4 - y); j++) {
                    for (int i = Math.max(0, -x); i < Math.min(4, 4 - x); i++) {
                        int u = a.get(4 * j + i);
                        int v = b.get(4 * (j + y) + i + x);
                        both += u != NONE && v != NONE ? 1 : 0;
                        unlike += u != NONE && v != NONE && u != v ? 1 : 0;
                    }
                }
                if (both >= k && unlike == 0) {
                    agree.add(10 * (x + 3) + y + 3);
                }
            }
        }
        asked = agree.isEmpty() ? 0 : agree.get(0);
        return agree.size();
    }

    int mapped(int boatBits) {
        in(boatBits, 0, 63);
        TreeSet<Integer> cells = new TreeSet<>();
        for (Sight look : looks) {
            for (int b : look.held) {
                if ((boatBits >> b & 1) == 1) {
                    cells.add(look.cell);
                }
            }
        }
        return tellSet(cells);
    }

    private static void ways(List<Integer> row) {
        for (int way : row) {
            find(way < 0 || way > 4, 3);
        }
    }

    int plan(int boatBits, int rowBits) {
        in(boatBits, 1, 63);
        in(rowBits, 0, 63);
        refuse(Integer.bitCount(boatBits) > 3, -6, 0);
        List<Integer> told = new ArrayList<>();
        for (int r = 0; r < 6; r++) {
            if ((rowBits >> r & 1) == 1) {
                told.add(r);
                theRow(r);
            }
        }
        for (int r : told) {
            find(rows.get(r).isEmpty() || rows.get(r).size() > 12, 5);
        }
        for (int r : told) {
            ways(rows.get(r));
        }
        List<Integer> who = new ArrayList<>();
        for (int b = 0; b < 6; b++) {
            if ((boatBits >> b & 1) == 1) {
                who.add(b);
            }
        }
        int[] best = {-1, 0};
        choose(who, told, 0, 0, new TreeSet<>(), best);
        asked = best[1];
        return best[0];
    }

    private void choose(List<Integer> who, List<Integer> told, int i, int choice, TreeSet<Integer> cells, int[] best) {
        if (i == who.size()) {
            if (cells.size() > best[0]) {
                best[0] = cells.size();
                best[1] = choice;
            }
            return;
        }
        choose(who, told, i + 1, choice, cells, best);
        int tens = i == 0 ? 1 : i == 1 ? 10 : 100;
        Vessel boat = boats[who.get(i)];
        for (int r : told) {
            TreeSet<Integer> more = new TreeSet<>(cells);
            int at = boat.cell;
            int due = 0;
            more.add(at);
            for (int way : rows.get(r)) {
                at = lead(at, way);
                more.add(at);
                due += way == 0 ? 0 : 2;
            }
            if (due <= boat.power) {
                choose(who, told, i + 1, choice + tens * (r + 1), more, best);
            }
        }
    }

    int odds(int c, int r) {
        in(c, 0, 63);
        in(r, 0, 5);
        bad(rock[c]);
        List<Integer> row = theRow(r);
        find(row.isEmpty() || row.size() > 8, 5);
        ways(row);
        BigInteger part = BigInteger.ZERO;
        for (int rowBits = 0; rowBits < 1 << row.size(); rowBits++) {
            BigInteger weight = BigInteger.ONE;
            int at = c;
            for (int i = 0; i < row.size(); i++) {
                at = lead(at, row.get(i));
                if ((rowBits >> i & 1) == 1) {
                    at = lead(at, current[at]);
                    weight = weight.multiply(BigInteger.valueOf(3));
                }
            }
            part = at == hole ? part.add(weight) : part;
        }
        BigInteger all = BigInteger.valueOf(4).pow(row.size());
        BigInteger both = part.gcd(all);
        upper = part.divide(both).longValueExact();
        lower = all.divide(both).longValueExact();
        return 1;
    }

    int courses(int c, int r, int seen) {
        in(c, 0, 63);
        in(r, 0, 5);
        in(seen, 0, 5);
        bad(rock[c]);
        List<Integer> row = theRow(r);
        List<Integer> sights = theRow(seen);
        int n = row.size();
        find(n < 1 || n > 10 || sights.size() % 2 == 1, 5);
        ways(row);
        for (int i = 0; i < sights.size(); i += 2) {
            find(sights.get(i) < 1 || sights.get(i) > n || sights.get(i + 1) < 0 || sights.get(i + 1) > 63, 3);
        }
        int fits = 0;
        int least = -1;
        for (int not = 0; not < 1 << n; not++) {
            int[] at = new int[n + 1];
            at[0] = c;
            for (int i = 0; i < n; i++) {
                int to = lead(at[i], row.get(i));
                at[i + 1] = (not >> n - 1 - i & 1) == 1 ? to : lead(to, current[to]);
            }
            boolean fit = true;
            for (int i = 0; i < sights.size(); i += 2) {
                fit &= at[sights.get(i)] == sights.get(i + 1);
            }
            if (fit) {
                fits++;
                least = least < 0 || Integer.bitCount(not) < Integer.bitCount(least) ? not : least;
            }
        }
        asked = Math.max(least, 0);
        return fits;
    }

    // ---- 6

    int asked() {
        return asked;
    }

    long set() {
        return set;
    }

    long upper() {
        return upper;
    }

    long lower() {
        return lower;
    }

    int count(int what) {
        in(what, 0, 7);
        int able = 0;
        int lost = 0;
        int home = 0;
        for (Vessel boat : boats) {
            able += boat.able() ? 1 : 0;
            lost += boat.kind == 4 || boat.kind == 5 ? 1 : 0;
            home += boat.kind == 6 ? 1 : 0;
        }
        int there = 0;
        for (Object row : rows) {
            there += row == null ? 0 : 1;
        }
        int texted = 0;
        for (Object text : texts) {
            texted += text == null ? 0 : 1;
        }
        return List.of(now, able, words.size(), looks.size(), lost, home, there, texted).get(what);
    }

    int finding() {
        return finding;
    }

    int findings(int f) {
        in(f, 1, 5);
        return findings[f];
    }

    long digest() {
        List<Long> all = new ArrayList<>();
        for (int what = 0; what < 8; what++) {
            all.add((long) count(what));
        }
        for (int c = 0; c < 64; c++) {
            for (long v : new long[] {rock[c] ? 1 : 0, current[c], warmth[c], ice[c], chart[c]}) {
                all.add(v);
            }
        }
        all.add((long) hole);
        for (int b = 0; b < 6; b++) {
            for (int what = 0; what < 6; what++) {
                all.add((long) of(b, what));
            }
            all.add(bits(boats[b].could));
            for (int what = 0; what < 4; what++) {
                all.add((long) rule(b, what));
            }
        }
        for (Saying word : words) {
            for (int what = 0; what < 4; what++) {
                all.add((long) of(word, what));
            }
            for (int h : word.how) {
                all.add((long) h);
            }
        }
        for (Sight look : looks) {
            for (int what = 0; what < 4; what++) {
                all.add((long) of(look, what));
            }
        }
        addRows(all, rows);
        addRows(all, texts);
        long h = 17;
        for (long v : all) {
            h = 31 * h + v;
        }
        return h;
    }

    private static <T extends Number> void addRows(List<Long> all, List<List<T>> some) {
        for (List<T> row : some) {
            all.add(row == null ? -1L : row.size());
            for (int i = 0; row != null && i < row.size(); i++) {
                all.add(row.get(i).longValue());
            }
        }
    }
}
