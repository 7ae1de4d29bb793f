import java.util.ArrayList;
import java.util.List;

/** Along the document: BOATS, ROWS and TEXTS bear numbers, and what is promised of one is promised of each. */
final class DocEachTest {
    private static final Check CHECK = new Check("the document: each number");
    private static final int NONE = IceBoats.NONE;

    // Who is who: the numbers that BOATS 0 .. 5 of the scene bear in a run of it.
    private final int[] names;
    private final IceBoats x = new IceBoats();
    private final List<String> answers = new ArrayList<>();

    private DocEachTest(int[] names) {
        this.names = names;
    }

    public static void main(String[] args) {
        boats();
        deadHoldings();
        rows();
        texts();
        CHECK.end();
    }

    private static void boats() {
        CHECK.quote(0, "BOATS 0 .. 5 are of a KIND");
        List<String> due = scene(new int[] {0, 1, 2, 3, 4, 5}).answers;
        CHECK.due("calls of the scene", due.size() > 300 ? 1 : 0, 1);
        List<int[]> all = new ArrayList<>();
        orders(new int[6], 0, 0, all);
        CHECK.due("orders of six", all.size(), 720);
        for (int[] names : all) {
            List<String> got = scene(names).answers;
            int k = 0;
            while (k < due.size() && k < got.size() && due.get(k).equals(got.get(k))) {
                k++;
            }
            boolean alike = k == due.size() && k == got.size();
            String told = alike ? "" : ": " + got.get(k) + ", due is " + due.get(k);
            CHECK.due("BOATS " + java.util.Arrays.toString(names) + told, alike ? 1 : 0, 1);
        }
    }

    private static void orders(int[] names, int used, int n, List<int[]> all) {
        if (n == 6) {
            all.add(names.clone());
            return;
        }
        for (int b = 0; b < 6; b++) {
            if ((used >> b & 1) == 0) {
                names[n] = b;
                orders(names, used | 1 << b, n + 1, all);
            }
        }
    }

    // The sea has no CURRENTS here, since LOTS are drawn by numbers.
    private static DocEachTest scene(int[] names) {
        DocEachTest run = new DocEachTest(names);
        run.letDown();
        run.look();
        run.say();
        run.lose();
        run.askAll();
        return run;
    }

    private void note(String what, long answer) {
        answers.add(what + " = " + answer);
    }

    // Bits of BOATS, as the scene names them.
    private long asInScene(long bits) {
        long set = 0;
        for (int b = 0; b < 6; b++) {
            set |= (bits >> names[b] & 1) << b;
        }
        return set;
    }

    private int asInRun(int bits) {
        int set = 0;
        for (int b = 0; b < 6; b++) {
            set |= (bits >> b & 1) << names[b];
        }
        return set;
    }

    private void letDown() {
        int[] kinds = {0, 1, 2, 3, 0, 1};
        int[] cells = {9, 10, 18, 20, 44, 9};
        int[] power = {100, 90, 80, 70, 60, 50};
        x.hole(63);
        for (int b = 0; b < 6; b++) {
            note("boat", x.boat(names[b], kinds[b], cells[b], power[b]));
            x.cell(cells[b], 0, 1, b + 1);
        }
        CHECK.text(x, 0, "H7L5W2E3");
        note("rules", x.rules(names[4], 0));
        CHECK.text(x, 0, "E1");
        note("rules", x.rules(names[2], 0));
        note("go", x.go(names[0], 4));
        note("go", x.go(names[1], 3));
        note("go", x.go(names[3], 1));
        note("tick", x.tick());
    }

    private void look() {
        for (int b : new int[] {0, 1, 1, 2, 5, 4, 4, 4}) {
            note("look", x.look(names[b]));
        }
        x.chart(17, 3);
        for (int b = 0; b < 6; b++) {
            note("match", x.match(names[b]));
        }
    }

    private void say() {
        note("say", x.say(names[1], 2, 1));
        note("say", x.say(names[4], 1, 0));
        note("tick", x.tick());
        note("say", x.say(names[0], 3, 2));
        note("say", x.say(names[3], 4, 40));
        note("tick", x.tick());
        note("say", x.say(names[2], 5, 0));
        note("say", x.say(names[5], 0, 0));
        note("say", x.say(names[0], 0, 0));
        for (int t = 0; t < 3; t++) {
            note("tick", x.tick());
            note("say", x.say(names[t], 0, 0));
        }
        note("tick", x.tick());
    }

    private void lose() {
        note("boat", x.boat(names[2], 0, 30, 0));
        note("boat", x.boat(names[5], 2, 63, 20));
        note("home", x.home(names[5]));
        note("home", x.home(names[1]));
        for (int t = 0; t < 6; t++) {
            note("tick", x.tick());
        }
    }

    private void askAll() {
        for (int b = 0; b < 6; b++) {
            for (int what = 0; what < 6; what++) {
                x.told(names[b], what);
                note("told " + b + " " + what, x.asked());
                note("mark " + b + " " + what, x.mark(names[b], what + 1));
            }
            note("could " + b, x.could(names[b]));
            note("set " + b, x.set());
            note("asks " + b, x.asks(names[b]));
            for (int k = 0; k < 4; k++) {
                note("rule " + b + " " + k, x.rule(names[b], k));
            }
        }
        for (int l = 0; l < x.count(3); l++) {
            x.looked(l, 2);
            note("HELD " + l, asInScene(x.asked()));
        }
        for (int w = 0; w < x.count(2); w++) {
            askOfWord(w);
        }
        for (int set = 0; set < 64; set++) {
            note("mapped " + set, x.mapped(asInRun(set)));
            note("set", x.set());
        }
        for (int what = 0; what < 8; what++) {
            note("count " + what, x.count(what));
        }
    }

    private void askOfWord(int w) {
        x.word(w, 1);
        note("who said " + w, asInScene(1L << x.asked()));
        for (int kind = 1; kind < 6; kind++) {
            note("tells " + w + " " + kind, x.tells(w, kind));
        }
        for (int a = 0; a < 6; a++) {
            note("heard " + w + " " + a, x.heard(w, names[a]));
            note("knows " + w + " " + a, x.knows(w, names[a], NONE, NONE));
            for (int b = 0; b < 6; b++) {
                note("knows " + w + " " + a + " " + b, x.knows(w, names[a], names[b], NONE));
                for (int c = 0; c < 6; c++) {
                    note("knows " + w + " " + a + " " + b + " " + c, x.knows(w, names[a], names[b], names[c]));
                }
            }
        }
        for (int set = 1; set < 64; set++) {
            for (int deep = 1; deep <= 3; deep++) {
                note("allKnow " + w + " " + set + " " + deep, x.allKnow(w, asInRun(set), deep));
            }
        }
    }

    private static void deadHoldings() {
        CHECK.quote(17, "a DEAD one how many LOOKS only it HOLDS");
        for (int b = 0; b < 6; b++) {
            IceBoats x = new IceBoats();
            int other = (b + 1) % 6;
            x.look(b);
            x.look(b);
            x.look(b);
            x.say(b, 2, 1);
            x.look(other);
            x.tick();
            x.boat(b, 0, 9, 0);
            x.tick();
            CHECK.due("BOAT " + b, x.mark(b, Fleet.DEAD), 2);
            CHECK.due("BOAT " + b + " HOLDS", Fleet.told(x, b, 4), 3);
        }
    }

    private static void rows() {
        CHECK.quote(0, "ROWS 0 .. 5 are rows of 0 to 40 ints");
        for (int r = 0; r < 6; r++) {
            for (int to = 0; to < 6; to++) {
                if (r != to) {
                    ofTwoRows(r, to);
                }
            }
        }
    }

    private static void ofTwoRows(int r, int to) {
        IceBoats x = Fleet.only(9, 40);
        String two = "ROWS " + r + ", " + to + ": ";
        CHECK.row(x, r, 3, 3, 4);
        CHECK.row(x, to, 4);
        CHECK.asked(x, two + "mean()", x.mean(r), 3);
        CHECK.due(two + "plan()", x.plan(3, 1 << r | 1 << to), 8);
        CHECK.due(two + "asked()", x.asked(), 11 * (r + 1));
        x.boat(0, 0, 9, 2);
        CHECK.due(two + "plan() with less POWER", x.plan(3, 1 << r | 1 << to), 6);
        CHECK.due(two + "asked()", x.asked(), 10 * (r + 1) + to + 1);
        x.hole(19);
        CHECK.due(two + "odds()", x.odds(9, r), 1);
        CHECK.due(two + "upper()", x.upper(), 1);
        CHECK.row(x, to, 3, 19, 2, 11);
        CHECK.due(two + "courses()", x.courses(9, r, to), 8);
        CHECK.due(two + "copy()", x.copy(r, 1, to, 2, 2), 1);
        int[] due = {3, 19, 3, 4};
        for (int i = 0; i < 4; i++) {
            CHECK.asked(x, two + "place " + i, x.lay(to, i, 0), due[i]);
        }
        int[] map = new int[16];
        java.util.Arrays.fill(map, NONE);
        map[0] = 5;
        CHECK.row(x, r, map);
        map[0] = NONE;
        map[15] = 5;
        CHECK.row(x, to, map);
        CHECK.due(two + "shifts()", x.shifts(r, to, 1), 1);
        CHECK.due(two + "asked()", x.asked(), 66);
        CHECK.due(two + "the other way", x.shifts(to, r, 1), 1);
        CHECK.due(two + "asked()", x.asked(), 0);
        CHECK.due(two + "tear()", x.tear(r), 1);
        CHECK.due(two + "one is left", x.count(6), 1);
        CHECK.found(x, two + "gone", () -> x.lay(r, 0, 0), Check.NOTHING);
        CHECK.asked(x, two + "there", x.lay(to, 15, 0), 5);
    }

    private static void texts() {
        CHECK.quote(0, "TEXTS 0 .. 3 rows of 0 to 40 bytes");
        for (int t = 0; t < 4; t++) {
            for (int b = 0; b < 6; b++) {
                IceBoats x = new IceBoats();
                CHECK.text(x, t, "H1L22W333E4X");
                CHECK.due("fault(" + t + ")", x.fault(t), 11);
                CHECK.due("put", x.put(t, 11, 32), 1088);
                CHECK.due("rules(" + b + ", " + t + ")", x.rules(b, t), 4);
                int[] due = {1, 22, 333, 4};
                for (int who = 0; who < 6; who++) {
                    for (int k = 0; k < 4; k++) {
                        CHECK.due("rule(" + who + ", " + k + ")", x.rule(who, k), who == b ? due[k] : NONE);
                    }
                }
            }
        }
    }
}
