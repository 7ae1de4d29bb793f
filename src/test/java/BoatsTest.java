/** Promises 15 to 24: BOATS, TICKS, LOOKS. */
final class BoatsTest {
    private static final Check CHECK = new Check("boats");

    public static void main(String[] args) {
        wrongNumbers();
        atFirst();
        letDown();
        marks();
        going();
        lackOfPower();
        coulds();
        lots();
        fading();
        looking();
        looksAreFull();
        matching();
        homing();
        lastTick();
        CHECK.end();
    }

    private static void wrongNumbers() {
        IceBoats x = new IceBoats();
        for (int b : new int[] {-1, 6, IceBoats.NONE, Integer.MIN_VALUE, Integer.MAX_VALUE}) {
            CHECK.refused(x, "boat(" + b + ")", () -> x.boat(b, 0, 0, 1), IceBoats.BAD);
            CHECK.refused(x, "told(" + b + ")", () -> x.told(b, 0), IceBoats.BAD);
            CHECK.refused(x, "mark(" + b + ")", () -> x.mark(b, 1), IceBoats.BAD);
            CHECK.refused(x, "could(" + b + ")", () -> x.could(b), IceBoats.BAD);
            CHECK.refused(x, "go(" + b + ")", () -> x.go(b, 0), IceBoats.BAD);
            CHECK.refused(x, "look(" + b + ")", () -> x.look(b), IceBoats.BAD);
            CHECK.refused(x, "match(" + b + ")", () -> x.match(b), IceBoats.BAD);
            CHECK.refused(x, "home(" + b + ")", () -> x.home(b), IceBoats.BAD);
            CHECK.refused(x, "looked(" + b + ")", () -> x.looked(b, 0), IceBoats.BAD);
        }
        CHECK.refused(x, "KIND 4", () -> x.boat(0, 4, 0, 1), IceBoats.BAD);
        CHECK.refused(x, "KIND -1", () -> x.boat(0, -1, 0, 1), IceBoats.BAD);
        CHECK.refused(x, "CELL 64", () -> x.boat(0, 0, 64, 1), IceBoats.BAD);
        CHECK.refused(x, "CELL -1", () -> x.boat(0, 0, -1, 1), IceBoats.BAD);
        CHECK.refused(x, "POWER 1001", () -> x.boat(0, 0, 0, 1001), IceBoats.BAD);
        CHECK.refused(x, "POWER -1", () -> x.boat(0, 0, 0, -1), IceBoats.BAD);
        CHECK.refused(x, "told(0, 6)", () -> x.told(0, 6), IceBoats.BAD);
        CHECK.refused(x, "told(0, -1)", () -> x.told(0, -1), IceBoats.BAD);
        CHECK.refused(x, "mark(0, 0)", () -> x.mark(0, 0), IceBoats.BAD);
        CHECK.refused(x, "mark(0, 7)", () -> x.mark(0, 7), IceBoats.BAD);
        CHECK.refused(x, "go(0, 5)", () -> x.go(0, 5), IceBoats.BAD);
        CHECK.refused(x, "go(0, -1)", () -> x.go(0, -1), IceBoats.BAD);
        x.look(0);
        CHECK.refused(x, "looked(1, 0)", () -> x.looked(1, 0), IceBoats.BAD);
        CHECK.refused(x, "looked(0, 4)", () -> x.looked(0, 4), IceBoats.BAD);
        CHECK.refused(x, "looked(0, -1)", () -> x.looked(0, -1), IceBoats.BAD);
    }

    private static void atFirst() {
        IceBoats x = new IceBoats();
        int[] first = {0, 0, 100, 1, 0, 0};
        for (int b = 0; b < 6; b++) {
            for (int what = 0; what < 6; what++) {
                CHECK.asked(x, "at first, told(" + b + ", " + what + ")", x.told(b, what), first[what]);
            }
            CHECK.due("could(" + b + ")", x.could(b), 1);
            CHECK.due("set()", x.set(), 1);
        }
        CHECK.due("all ABLE", x.count(1), 6);
    }

    private static void letDown() {
        IceBoats x = new IceBoats();
        x.rock(9, true);
        CHECK.refused(x, "into ROCK", () -> x.boat(0, 0, 9, 1), IceBoats.STATE);
        CHECK.refused(x, "into ROCK, of KIND 4", () -> x.boat(0, 4, 9, 1), IceBoats.BAD);
        CHECK.due("POWER 0", x.boat(0, 0, 0, 0), 1);
        CHECK.due("POWER 1000", x.boat(0, 3, 63, 1000), 1);
        CHECK.ticks(x, 3);
        CHECK.text(x, 0, "L9");
        x.rules(1, 0);
        x.look(1);
        x.say(1, 0, 0);
        x.go(1, 3);
        CHECK.due("again", x.boat(1, 2, 20, 50), 1);
        int[] due = {2, 20, 50, 1, 1, 3};
        for (int what = 0; what < 6; what++) {
            CHECK.asked(x, "again, told(1, " + what + ")", x.told(1, what), due[what]);
        }
        CHECK.due("COULD", x.could(1), 1);
        CHECK.due("set()", x.set(), 1L << 20);
        CHECK.due("its RULES stay", x.rule(1, 1), 9);
        CHECK.due("what it said stays", x.mark(1, 2), 1);
        CHECK.refused(x, "said one in this TICK", () -> x.say(1, 0, 0), IceBoats.STATE);
        x.tick();
        CHECK.asked(x, "told no WAY", x.told(1, 1), 20);
        CHECK.asked(x, "nor POWER for one", x.told(1, 2), 50);
    }

    private static void marks() {
        IceBoats x = new IceBoats();
        x.boat(0, 1, 0, 100);
        x.boat(1, 2, 0, 100);
        CHECK.ticks(x, 2);
        x.boat(2, 3, 0, 100);
        x.boat(3, 0, 0, 0);
        x.look(3);
        CHECK.text(x, 0, "L0");
        x.rules(4, 0);
        x.home(5);
        x.tick();
        // KINDS now: MAPPER, CARRIER, ANCHOR, DEAD, LOST, HOME
        int[] kinds = {1, 2, 3, 5, 4, 6};
        for (int b = 0; b < 6; b++) {
            CHECK.asked(x, "KIND of " + b, x.told(b, 0), kinds[b]);
            for (int kind = 1; kind <= 6; kind++) {
                int of = b;
                int by = kind;
                boolean is = kinds[b] == kind || (kinds[b] == 3 && kind == 2) || (kinds[b] == 5 && kind == 4);
                if (!is) {
                    CHECK.found(x, "mark(" + b + ", " + kind + ")", () -> x.mark(of, by), Check.UNLIKE);
                }
            }
        }
        x.look(0);
        x.look(0);
        CHECK.due("MAPPER", x.mark(0, 1), 2);
        x.say(1, 0, 0);
        x.say(2, 0, 0);
        x.tick();
        x.say(2, 0, 0);
        CHECK.due("CARRIER", x.mark(1, 2), 1);
        CHECK.due("ANCHOR as a CARRIER", x.mark(2, 2), 2);
        CHECK.due("ANCHOR", x.mark(2, 3), 2);
        CHECK.due("LOST", x.mark(4, 4), 3);
        CHECK.due("DEAD as a LOST one", x.mark(3, 4), 3);
        CHECK.due("DEAD, holds none", x.mark(3, 5), 0);
        CHECK.due("HOME", x.mark(5, 6), 100);
        x.boat(0, 0, 0, 100);
        CHECK.found(x, "no MAPPER any more", () -> x.mark(0, 1), Check.UNLIKE);
        x.look(0);
        x.boat(0, 1, 0, 7);
        CHECK.due("MAPPER again: all that it made", x.mark(0, 1), 3);
        x.boat(2, 3, 5, 9);
        CHECK.due("ANCHOR anew", x.mark(2, 3), 4);
        deadHoldings();
    }

    private static void deadHoldings() {
        IceBoats x = new IceBoats();
        x.boat(0, 0, 0, 17);
        x.look(0);
        x.look(0);
        x.look(0);
        x.say(0, 2, 1);
        x.boat(0, 0, 0, 0);
        x.tick();
        CHECK.asked(x, "it is DEAD", x.told(0, 0), 5);
        CHECK.due("it alone HOLDS two", x.mark(0, 5), 2);
        CHECK.asked(x, "it HOLDS three", x.told(0, 4), 3);
        CHECK.asked(x, "others one", x.told(5, 4), 1);
    }

    private static void going() {
        IceBoats x = new IceBoats();
        int[] cells = {27, 19, 26, 28, 35};
        for (int way = 0; way < 5; way++) {
            x.boat(0, 0, 27, 10);
            CHECK.due("go(0, " + way + ")", x.go(0, way), 1);
            x.tick();
            CHECK.asked(x, "WAY " + way + " leads to", x.told(0, 1), cells[way]);
            CHECK.asked(x, "WAY " + way + " takes", x.told(0, 2), way == 0 ? 10 : 8);
            x.tick();
            CHECK.asked(x, "then none was told", x.told(0, 1), cells[way]);
            CHECK.asked(x, "which takes none", x.told(0, 2), way == 0 ? 10 : 8);
        }
        int[][] edges = {{0, 1}, {0, 2}, {7, 3}, {56, 4}, {7, 1}, {8, 2}, {63, 3}, {63, 4}, {15, 3}, {57, 4}};
        for (int[] edge : edges) {
            x.boat(0, 0, edge[0], 10);
            x.go(0, edge[1]);
            x.tick();
            CHECK.asked(x, "at the edge " + edge[0] + " by " + edge[1], x.told(0, 1), edge[0]);
            CHECK.asked(x, "takes 2, too", x.told(0, 2), 8);
        }
        x.rock(28, true);
        x.boat(0, 0, 27, 10);
        x.go(0, 3);
        x.tick();
        CHECK.asked(x, "before ROCK", x.told(0, 1), 27);
        CHECK.asked(x, "takes 2, too", x.told(0, 2), 8);
        x.go(0, 1);
        x.go(0, 4);
        x.tick();
        CHECK.asked(x, "the WAY told last", x.told(0, 1), 35);
        x.boat(1, 3, 27, 10);
        x.cell(27, 1, 1, 0);
        CHECK.due("an ANCHOR is told", x.go(1, 4), 1);
        CHECK.ticks(x, 4);
        CHECK.asked(x, "an ANCHOR stays", x.told(1, 1), 27);
        CHECK.asked(x, "and takes none", x.told(1, 2), 10);
        CHECK.due("its COULD stays", x.could(1), 1);
    }

    private static void lackOfPower() {
        IceBoats x = new IceBoats();
        x.boat(0, 0, 27, 1);
        x.boat(1, 0, 27, 2);
        x.go(0, 4);
        x.go(1, 4);
        x.tick();
        CHECK.asked(x, "with 1 it stays", x.told(0, 1), 27);
        CHECK.asked(x, "and has 1", x.told(0, 2), 1);
        x.could(0);
        CHECK.due("and knows that", x.set(), 1L << 27);
        CHECK.asked(x, "with 2 it goes", x.told(1, 1), 35);
        CHECK.asked(x, "and has none", x.told(1, 2), 0);
        CHECK.asked(x, "and is DEAD", x.told(1, 0), 5);
        CHECK.refused(x, "go of a DEAD one", () -> x.go(1, 1), IceBoats.STATE);
        CHECK.refused(x, "go of a DEAD one by 5", () -> x.go(1, 5), IceBoats.BAD);
        x.cell(35, 3, 1, 0);
        CHECK.ticks(x, 5);
        CHECK.asked(x, "a DEAD one is not carried", x.told(1, 1), 35);
        CHECK.due("its COULD stays", x.could(1), 1);
        x.hole(27);
        x.home(0);
        x.cell(27, 3, 1, 0);
        CHECK.ticks(x, 5);
        CHECK.asked(x, "a HOME one is not carried", x.told(0, 1), 27);
        CHECK.refused(x, "go of a HOME one", () -> x.go(0, 1), IceBoats.STATE);
    }

    private static void coulds() {
        IceBoats x = new IceBoats();
        x.cell(28, 4, 1, 0);
        x.cell(36, 3, 1, 0);
        x.boat(0, 0, 27, 100);
        x.go(0, 3);
        x.tick();
        CHECK.due("WAY and then CURRENT or none", x.could(0), 2);
        CHECK.due("set()", x.set(), 1L << 28 | 1L << 36);
        x.tick();
        CHECK.due("from each of COULD", x.could(0), 3);
        CHECK.due("set()", x.set(), 1L << 28 | 1L << 36 | 1L << 37);
        x.rock(20, true);
        x.rock(29, true);
        x.go(0, 1);
        x.tick();
        CHECK.due("what does not lead on stays", x.could(0), 3);
        CHECK.due("set()", x.set(), 1L << 28 | 1L << 36 | 1L << 37);
        CHECK.asked(x, "told(0, 3)", x.told(0, 3), 3);
    }

    // Each ABLE one that is no ANCHOR draws, even where no CURRENT is
    private static void lots() {
        int carried = 0;
        for (int seed = 1; seed <= 20; seed++) {
            IceBoats x = new IceBoats();
            x.seed(seed);
            x.boat(0, 3, 1, 9);
            x.boat(1, 0, 1, 0);
            x.hole(0);
            x.home(2);
            x.tick();
            int l = seed;
            for (int i = 0; i < 4; i++) {
                l = l * 1103515245 + 12345;
            }
            x.boat(5, 0, 20, 9);
            x.cell(20, 3, 1, 0);
            x.tick();
            for (int i = 0; i < 3; i++) {
                l = l * 1103515245 + 12345;
            }
            boolean carries = (l >>> 16 & 0x7FFF) % 4 != 0;
            carried += carries ? 1 : 0;
            CHECK.asked(x, "carried, seed " + seed, x.told(5, 1), carries ? 21 : 20);
        }
        CHECK.due("some are carried, some not", carried > 0 && carried < 20 ? 1 : 0, 1);
    }

    private static void fading() {
        IceBoats x = new IceBoats();
        CHECK.text(x, 0, "L2");
        x.rules(0, 0);
        x.rules(1, 0);
        CHECK.ticks(x, 2);
        CHECK.asked(x, "not for more than 2", x.told(0, 0), 0);
        x.boat(1, 1, 5, 0);
        x.tick();
        CHECK.asked(x, "LOST behind 2", x.told(0, 0), 4);
        CHECK.due("since", x.mark(0, 4), 3);
        CHECK.asked(x, "DEAD", x.told(1, 0), 5);
        CHECK.asked(x, "no RULES, not LOST", x.told(2, 0), 0);
        x.boat(0, 0, 0, 0);
        CHECK.ticks(x, 1);
        CHECK.asked(x, "POWER 0 is DEAD", x.told(0, 0), 5);
        x.boat(0, 0, 0, 9);
        CHECK.ticks(x, 1);
        x.say(2, 0, 0);
        CHECK.due("heard by 0, 3, 4, 5 and none else", x.tick(), 4);
        CHECK.asked(x, "heard at 6", x.told(0, 5), 6);
        CHECK.ticks(x, 2);
        CHECK.asked(x, "heard 2 ago", x.told(0, 0), 0);
        CHECK.ticks(x, 1);
        CHECK.asked(x, "heard 3 ago", x.told(0, 0), 4);
        CHECK.refused(x, "go of a LOST one", () -> x.go(0, 1), IceBoats.STATE);
        CHECK.ticks(x, 1);
        CHECK.due("LOST since then", x.mark(0, 4), 9);
        x.boat(3, 0, 0, 0);
        CHECK.text(x, 0, "L0");
        x.rules(3, 0);
        x.rules(4, 0);
        x.tick();
        CHECK.asked(x, "both fit: DEAD", x.told(3, 0), 5);
        CHECK.asked(x, "L 0", x.told(4, 0), 4);
        CHECK.due("LOST and DEAD ones", x.count(4), 4);
    }

    private static void looking() {
        IceBoats x = new IceBoats();
        x.cell(5, 0, 1, 7);
        x.boat(0, 0, 5, 7);
        x.boat(1, 1, 5, 1);
        x.boat(2, 2, 6, 4);
        x.boat(3, 3, 6, 3);
        CHECK.ticks(x, 2);
        CHECK.due("a BOAT's", x.look(0), 0);
        CHECK.asked(x, "takes 4", x.told(0, 2), 3);
        CHECK.refused(x, "with 3", () -> x.look(0), IceBoats.STATE);
        CHECK.due("a MAPPER's", x.look(1), 1);
        CHECK.asked(x, "takes 1", x.told(1, 2), 0);
        CHECK.refused(x, "with none", () -> x.look(1), IceBoats.STATE);
        CHECK.due("a CARRIER's", x.look(2), 2);
        CHECK.asked(x, "takes 4", x.told(2, 2), 0);
        CHECK.refused(x, "an ANCHOR's with 3", () -> x.look(3), IceBoats.STATE);
        x.cell(5, 0, 1, 8);
        int[] due = {5, 7, 2, 2};
        for (int what = 0; what < 4; what++) {
            CHECK.asked(x, "looked(1, " + what + ")", x.looked(1, what), due[what]);
        }
        CHECK.asked(x, "HELD by 2", x.looked(2, 2), 4);
        x.home(4);
        CHECK.refused(x, "a HOME one's", () -> x.look(4), IceBoats.STATE);
        CHECK.due("LOOKS", x.count(3), 3);
    }

    private static void looksAreFull() {
        IceBoats x = new IceBoats();
        x.boat(0, 1, 0, 41);
        x.boat(1, 0, 1, 3);
        for (int l = 0; l < 40; l++) {
            CHECK.due("LOOK " + l, x.look(0), l);
        }
        CHECK.refused(x, "a LOOK more", () -> x.look(0), IceBoats.FULL);
        CHECK.refused(x, "FULL behind STATE", () -> x.look(1), IceBoats.STATE);
        CHECK.due("match by the last one", x.match(0), 1);
    }

    private static void matching() {
        IceBoats x = new IceBoats();
        x.cell(1, 3, 1, 4);
        x.cell(2, 3, 1, 4);
        x.cell(3, 3, 1, 4);
        x.boat(0, 0, 0, 100);
        CHECK.refused(x, "no LOOK", () -> x.match(0), IceBoats.STATE);
        x.go(0, 3);
        x.tick();
        x.tick();
        CHECK.due("COULD", x.could(0), 3);
        CHECK.due("set()", x.set(), 0xEL);
        x.chart(1, 5);
        x.look(0);
        CHECK.due("a LOOK alone keeps all", x.could(0), 3);
        x.look(1);
        x.chart(2, 4);
        CHECK.due("without 1", x.match(0), 2);
        x.could(0);
        CHECK.due("set()", x.set(), 0xCL);
        x.chart(3, 3);
        CHECK.due("without 3", x.match(0), 1);
        x.chart(2, 6);
        CHECK.due("none would be left", x.match(0), 1);
        x.could(0);
        CHECK.due("set()", x.set(), 0x4L);
        CHECK.refused(x, "another's LOOK", () -> x.match(2), IceBoats.STATE);
        x.tick();
        CHECK.refused(x, "a LOOK of the TICK ahead", () -> x.match(0), IceBoats.STATE);
        x.look(0);
        x.cell(0, 0, 1, 9);
        CHECK.due("a LOOK in this TICK", x.match(0) > 0 ? 1 : 0, 1);
        latestLookCounts();
        heardLookIsNotMade();
        chartAtTheEnds();
    }

    private static void latestLookCounts() {
        IceBoats x = new IceBoats();
        x.cell(0, 3, 1, 2);
        x.tick();
        CHECK.due("COULD", x.could(0), 2);
        x.cell(0, 3, 1, 5);
        x.cell(1, 3, 1, 5);
        x.look(0);
        x.cell(0, 3, 1, 6);
        x.cell(1, 3, 1, 6);
        x.look(0);
        x.chart(0, 5);
        x.chart(1, 6);
        CHECK.due("by the latest", x.match(0), 1);
        x.could(0);
        CHECK.due("set()", x.set(), 2);
    }

    // CELL 0 and CELL 63 are on the CHART like all others
    private static void chartAtTheEnds() {
        IceBoats x = new IceBoats();
        x.cell(0, 3, 1, 0);
        x.cell(62, 3, 1, 0);
        x.boat(1, 0, 62, 100);
        x.tick();
        x.look(0);
        x.look(1);
        CHECK.due("0 and 1", x.match(0), 2);
        x.could(0);
        CHECK.due("set()", x.set(), 3);
        CHECK.due("62 and 63", x.match(1), 2);
        x.chart(1, 9);
        x.chart(62, 9);
        CHECK.due("just 0", x.match(0), 1);
        x.could(0);
        CHECK.due("set()", x.set(), 1);
        CHECK.due("just 63", x.match(1), 1);
        x.could(1);
        CHECK.due("set()", x.set(), 1L << 63);
    }

    private static void heardLookIsNotMade() {
        IceBoats x = new IceBoats();
        x.look(0);
        x.say(0, 2, 0);
        x.tick();
        CHECK.asked(x, "it HOLDS it", x.told(1, 4), 1);
        CHECK.refused(x, "HELD, not made", () -> x.match(1), IceBoats.STATE);
    }

    private static void homing() {
        IceBoats x = new IceBoats();
        x.hole(10);
        x.boat(0, 3, 10, 33);
        CHECK.refused(x, "not there", () -> x.home(1), IceBoats.STATE);
        CHECK.due("home(0)", x.home(0), 1);
        CHECK.asked(x, "KIND", x.told(0, 0), 6);
        CHECK.due("its POWER", x.mark(0, 6), 33);
        CHECK.refused(x, "HOME again", () -> x.home(0), IceBoats.STATE);
        x.boat(2, 0, 10, 0);
        x.tick();
        CHECK.refused(x, "DEAD there", () -> x.home(2), IceBoats.STATE);
        CHECK.due("HOME ones", x.count(5), 1);
        CHECK.due("ABLE ones", x.count(1), 4);
        x.boat(0, 0, 10, 5);
        CHECK.due("let down again", x.home(0), 1);
        x.boat(1, 0, 9, 50);
        x.go(1, 3);
        x.tick();
        CHECK.due("come by a WAY", x.home(1), 1);
    }

    private static void lastTick() {
        IceBoats x = new IceBoats();
        for (int t = 1; t <= 999; t++) {
            CHECK.due("TICK " + t, x.tick(), 0);
        }
        CHECK.refused(x, "a TICK more", () -> x.tick(), IceBoats.STATE);
        CHECK.due("THE TICK", x.count(0), 999);
    }
}
