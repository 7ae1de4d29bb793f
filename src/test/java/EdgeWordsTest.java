/** The boundary cases of sound, words and who KNOWS: promises 25 to 31, and part 3 of the terms. */
final class EdgeWordsTest {
    private static final Check CHECK = new Check("edges of words");
    private static final int LEAST = Integer.MIN_VALUE, GREATEST = Integer.MAX_VALUE, NONE = IceBoats.NONE;
    private static final int MET = -10, NEVER = -11, DEAF = -12;
    private static final int[] NO_BOATS = {-1, 6, NONE, LEAST, GREATEST};

    public static void main(String[] args) {
        times();
        noWay();
        loud();
        loudByWarmth();
        saidByNumbers();
        saidByState();
        wordsAreFull();
        oneInATick();
        toldOf();
        tellsOf();
        neverComes();
        comesYet();
        met();
        notAbleAsItComes();
        farTookOne();
        farAsLongAsItTook();
        farLeavesNone();
        farWhereItCouldBeAnywhere();
        seen();
        wishes();
        meets();
        leaves();
        knowsOf();
        chains();
        allKnow();
        allKnowByChains();
        CHECK.end();
    }

    private static void is(IceBoats x, int b, int what, long due) {
        CHECK.asked(x, "told(" + b + ", " + what + ")", x.told(b, what), due);
    }

    private static void couldBe(IceBoats x, int b, long cells) {
        CHECK.due("could(" + b + ")", x.could(b), Long.bitCount(cells));
        CHECK.due("set()", x.set(), cells);
    }

    /** All but some BOATS are HOME, so that just these hear and are heard. */
    private static IceBoats only(int... cells) {
        IceBoats x = new IceBoats();
        for (int b = 0; b < 6; b++) {
            if (b < cells.length) {
                x.boat(b, 0, cells[b], 100);
            } else {
                x.home(b);
            }
        }
        return x;
    }

    private static void times() {
        IceBoats x = new IceBoats();
        CHECK.sentence(0, "TIME of two CELLS is the least sum (0 for a CELL and itself)");
        for (int c = 0; c < 64; c++) {
            CHECK.due("of " + c + " and itself", x.time(c, c), 0);
        }
        x.cell(9, 0, 4, 0);
        CHECK.due("be it warm", x.time(9, 9), 0);
        CHECK.due("into what is warm", x.time(8, 9), 4);
        CHECK.due("out of what is warm", x.time(9, 8), 1);
        CHECK.sentence(0, "not beyond the sea: no way around from one side to the other");
        CHECK.due("7 and 8", x.time(7, 8), 8);
        CHECK.due("0 and 7", x.time(0, 7), 7);
        CHECK.due("0 and 56", x.time(0, 56), 7);
        CHECK.due("7 and 56", x.time(7, 56), 14);
        CHECK.due("0 and 63", x.time(0, 63), 14);
        CHECK.sentence(25, "BAD");
        for (int c : new int[] {-1, 64, NONE, LEAST, GREATEST}) {
            CHECK.bad(x, "time(" + c + ", 0)", () -> x.time(c, 0));
            CHECK.bad(x, "time(0, " + c + ")", () -> x.time(0, c));
            CHECK.bad(x, "time(" + c + ", " + c + ")", () -> x.time(c, c));
        }
        CHECK.sentence(25, "BAD: also ROCK");
        x.rock(63, true);
        CHECK.bad(x, "from ROCK", () -> x.time(63, 0));
        CHECK.bad(x, "to ROCK", () -> x.time(0, 63));
        CHECK.bad(x, "of ROCK and itself", () -> x.time(63, 63));
        CHECK.sentence(0, "the least sum, where it is the greatest there can be");
        IceBoats y = new IceBoats();
        for (int c = 0; c < 64; c++) {
            y.cell(c, 0, 4, 0);
            boolean wall = c / 8 % 2 == 1 && c % 8 != (c / 8 % 4 == 1 ? 7 : 0);
            y.rock(c, wall);
        }
        CHECK.due("through 35 CELLS of WARMTH 4", y.time(0, 56), 4 * 35);
        CHECK.sentence(0, "TIME of two CELLS: no call is told by the one ahead of it");
        IceBoats z = new IceBoats();
        z.cell(1, 0, 4, 0);
        for (int t = 0; t <= 7; t++) {
            CHECK.due("down", z.time(0, 8 * t), t);
            CHECK.due("into what is warm", z.time(63, 1), 16);
        }
    }

    private static void noWay() {
        IceBoats x = new IceBoats();
        CHECK.sentence(25, "NOTHING: no way for a sound");
        x.rock(1, true);
        x.hole(63);
        CHECK.due("one way is left", x.time(0, 2), 4);
        x.rock(8, true);
        CHECK.found(x, "no way out", () -> x.time(0, 63), Check.NOTHING);
        CHECK.found(x, "no way in", () -> x.time(63, 0), Check.NOTHING);
        CHECK.found(x, "not to the next but one", () -> x.time(0, 9), Check.NOTHING);
        CHECK.due("itself", x.time(0, 0), 0);
        CHECK.bad(x, "BAD goes ahead of NOTHING", () -> x.time(0, 1));
        CHECK.bad(x, "BAD goes ahead of NOTHING", () -> x.time(0, 64));
        x.rock(8, false);
        CHECK.due("a way again", x.time(0, 63), 14);
    }

    private static void loud() {
        CHECK.sentence(0, "It comes TIME of both true CELLS (as it is said) later, if that is no more than 12 (TIME 0: at the next TICK's hearing, as TIME 1)");
        for (int steps = 0; steps <= 14; steps++) {
            int far = steps <= 7 ? steps : 7 + 8 * (steps - 7);
            IceBoats x = only(0, far);
            CHECK.ticks(x, 5);
            x.say(0, 0, 0);
            CHECK.due("TIME " + steps + " as it is said", x.heard(0, 1), steps > 12 ? NEVER : NONE);
            int due = steps == 0 ? 1 : steps;
            for (int t = 1; t <= 15; t++) {
                CHECK.due("TIME " + steps + ", HEARD " + t + " later", x.tick(), t == due && steps <= 12 ? 1 : 0);
            }
            CHECK.due("TIME " + steps, x.heard(0, 1), steps > 12 ? NEVER : 5 + due);
        }
    }

    private static void loudByWarmth() {
        CHECK.sentence(0, "LOUD is a sound to TIME 12");
        for (int warmth = 1; warmth <= 4; warmth++) {
            IceBoats x = only(0, 3);
            for (int c = 1; c <= 3; c++) {
                x.cell(c, 0, warmth, 0);
                x.rock(8 + c, true);
            }
            x.say(0, 0, 0);
            CHECK.ticks(x, 3 * warmth - 1);
            CHECK.due("comes yet", x.heard(0, 1), NONE);
            x.tick();
            CHECK.due("WARMTH " + warmth, x.heard(0, 1), 3 * warmth);
        }
        IceBoats x = only(0, 4);
        for (int c = 1; c <= 3; c++) {
            x.cell(c, 0, 4, 0);
            x.rock(8 + c, true);
        }
        for (int c = 16; c < 21; c++) {
            x.rock(c, true);
        }
        CHECK.due("TIME 13", x.time(0, 4), 13);
        x.say(0, 0, 0);
        CHECK.due("not LOUD", x.heard(0, 1), NEVER);
        CHECK.sentence(0, "its WARMTH of each CELL that it enters: not as long back as there");
        IceBoats y = only(0, 1);
        y.cell(1, 0, 4, 0);
        y.say(0, 0, 0);
        y.say(1, 0, 0);
        CHECK.due("back", y.tick(), 1);
        CHECK.due("heard(1, 0)", y.heard(1, 0), 1);
        CHECK.ticks(y, 2);
        CHECK.due("there, not yet", y.heard(0, 1), NONE);
        y.tick();
        CHECK.due("there", y.heard(0, 1), 4);
    }

    private static void saidByNumbers() {
        IceBoats x = new IceBoats();
        CHECK.sentence(26, "BAD");
        for (int b : NO_BOATS) {
            CHECK.bad(x, "say(" + b + ", 0, 0)", () -> x.say(b, 0, 0));
        }
        for (int kind : new int[] {-1, 6, 7, NONE, LEAST, GREATEST}) {
            CHECK.bad(x, "KIND " + kind, () -> x.say(0, kind, 0));
        }
        CHECK.sentence(26, "BAD: also v");
        CHECK.bad(x, "no LOOK yet", () -> x.say(0, 2, 0));
        x.look(0);
        for (int v : new int[] {-1, 1, 40, NONE, LEAST, GREATEST}) {
            CHECK.bad(x, "LOOK " + v, () -> x.say(0, 2, v));
        }
        for (int v : new int[] {-1, 5, NONE, LEAST, GREATEST}) {
            CHECK.bad(x, "WAY " + v, () -> x.say(0, 3, v));
        }
        for (int v : new int[] {-1, 64, NONE, LEAST, GREATEST}) {
            CHECK.bad(x, "CELL " + v, () -> x.say(0, 4, v));
        }
        CHECK.sentence(26, "with v (SEEN: a LOOK; WISH: a WAY; MEET: a CELL): the ends");
        int[][] fine = {{2, 0}, {3, 0}, {3, 4}, {4, 0}, {4, 63}};
        for (int w = 0; w < fine.length; w++) {
            CHECK.due("KIND " + fine[w][0] + " with " + fine[w][1], x.say(0, fine[w][0], fine[w][1]), w);
            CHECK.asked(x, "v", x.word(w, 3), fine[w][1]);
            x.tick();
        }
        CHECK.sentence(26, "others: not looked at");
        int w = fine.length;
        for (int kind : new int[] {0, 1, 5}) {
            for (int v : new int[] {LEAST, -1, 64, GREATEST}) {
                x.boat(0, 0, 0, 100);
                CHECK.due("KIND " + kind + " with " + v, x.say(0, kind, v), w);
                CHECK.asked(x, "v", x.word(w, 3), 0);
                x.tick();
                w++;
            }
        }
    }

    private static void saidByState() {
        IceBoats x = new IceBoats();
        CHECK.text(x, 0, "L0");
        x.rules(3, 0);
        x.boat(4, 0, 0, 0);
        x.home(5);
        x.tick();
        x.look(0);
        CHECK.sentence(26, "STATE: not ABLE");
        for (int b = 3; b < 6; b++) {
            int of = b;
            CHECK.state(x, "not ABLE: " + b, () -> x.say(of, 0, 0));
        }
        CHECK.sentence(26, "STATE: said one in this TICK");
        CHECK.due("one", x.say(1, 0, 0), 0);
        CHECK.state(x, "another one", () -> x.say(1, 0, 0));
        CHECK.state(x, "of another KIND", () -> x.say(1, 4, 63));
        CHECK.due("another BOAT", x.say(2, 0, 0), 1);
        x.tick();
        CHECK.due("in the next TICK", x.say(1, 0, 0), 2);
        CHECK.sentence(26, "STATE: not enough POWER; that takes 3 of POWER");
        for (int power = 0; power <= 2; power++) {
            x.boat(0, 2, 0, power);
            CHECK.state(x, "POWER " + power, () -> x.say(0, 0, 0));
        }
        x.boat(0, 2, 0, 3);
        CHECK.due("POWER 3", x.say(0, 0, 0), 3);
        is(x, 0, 2, 0);
        CHECK.sentence(26, "STATE: it does not HOLD the LOOK");
        CHECK.state(x, "it is another one's", () -> x.say(2, 2, 0));
        CHECK.sentence(26, "BAD goes ahead of STATE");
        CHECK.bad(x, "not ABLE, KIND 6", () -> x.say(5, 6, 0));
        CHECK.bad(x, "not ABLE, WAY 5", () -> x.say(5, 3, 5));
        CHECK.bad(x, "said one, CELL 64", () -> x.say(1, 4, 64));
        CHECK.bad(x, "no POWER, no such LOOK", () -> x.say(0, 2, 1));
    }

    private static void wordsAreFull() {
        IceBoats x = only(0, 0, 0, 0, 0);
        x.look(0);
        CHECK.sentence(0, "WORDS 0, 1, .. (40 at most)");
        for (int w = 0; w < 40; w++) {
            CHECK.due("word", x.say(w % 4, 0, 0), w);
            if (w % 4 == 3 && w < 39) {
                x.tick();
            }
        }
        CHECK.asked(x, "the last one's sayer", x.word(39, 1), 3);
        CHECK.bad(x, "word(40, 0)", () -> x.word(40, 0));
        CHECK.sentence(26, "FULL");
        CHECK.full(x, "one more", () -> x.say(4, 0, 0));
        CHECK.full(x, "one more with v", () -> x.say(4, 3, 4));
        CHECK.sentence(26, "(FULL behind STATE.)");
        CHECK.state(x, "said one in this TICK", () -> x.say(0, 0, 0));
        CHECK.state(x, "not ABLE", () -> x.say(5, 0, 0));
        CHECK.state(x, "does not HOLD the LOOK", () -> x.say(4, 2, 0));
        x.boat(4, 0, 0, 2);
        CHECK.state(x, "not enough POWER", () -> x.say(4, 0, 0));
        CHECK.sentence(26, "BAD goes ahead of FULL");
        CHECK.bad(x, "KIND 6", () -> x.say(4, 6, 0));
        CHECK.bad(x, "no such LOOK", () -> x.say(4, 2, 1));
        x.tick();
        CHECK.full(x, "in the next TICK, too", () -> x.say(0, 0, 0));
        CHECK.full(x, "a LOOK that it HOLDS", () -> x.say(0, 2, 0));
    }

    private static void oneInATick() {
        CHECK.sentence(0, "A BOAT says one in a TICK at most: TICK 0 is one, too");
        IceBoats x = new IceBoats();
        CHECK.due("at 0", x.say(0, 0, 0), 0);
        CHECK.state(x, "again at 0", () -> x.say(0, 0, 0));
        CHECK.sentence(0, "What is refused changes nothing: a word that was refused is none of this TICK");
        x.boat(1, 0, 0, 2);
        CHECK.state(x, "POWER 2", () -> x.say(1, 0, 0));
        x.boat(1, 0, 0, 3);
        CHECK.due("POWER 3", x.say(1, 0, 0), 1);
    }

    private static void toldOf() {
        IceBoats x = new IceBoats();
        CHECK.sentence(27, "BAD");
        CHECK.bad(x, "no word yet", () -> x.word(0, 0));
        x.say(5, 5, 77);
        for (int w : new int[] {-1, 1, 40, NONE, LEAST, GREATEST}) {
            CHECK.bad(x, "word(" + w + ", 0)", () -> x.word(w, 0));
        }
        for (int what : new int[] {-1, 4, NONE, LEAST, GREATEST}) {
            CHECK.bad(x, "word(0, " + what + ")", () -> x.word(0, what));
        }
        CHECK.sentence(27, "3 v (0: not looked at)");
        int[] due = {5, 5, 0, 0};
        for (int what = 0; what < 4; what++) {
            CHECK.asked(x, "word(0, " + what + ")", x.word(0, what), due[what]);
        }
    }

    private static void tellsOf() {
        IceBoats x = new IceBoats();
        x.cell(0, 0, 1, 9);
        x.look(0);
        CHECK.sentence(28, "BAD");
        CHECK.bad(x, "no word yet", () -> x.tells(0, 1));
        for (int kind = 0; kind <= 5; kind++) {
            x.say(0, kind, kind == 4 ? 63 : 0);
            x.tick();
        }
        CHECK.sentence(28, "BAD: also KIND 0");
        for (int w = 0; w <= 5; w++) {
            int of = w;
            for (int kind : new int[] {0, -1, 6, NONE, LEAST, GREATEST}) {
                CHECK.bad(x, "tells(" + w + ", " + kind + ")", () -> x.tells(of, kind));
            }
        }
        for (int w : new int[] {-1, 6, 40, NONE, LEAST, GREATEST}) {
            CHECK.bad(x, "tells(" + w + ", 1)", () -> x.tells(w, 1));
        }
        CHECK.sentence(28, "UNLIKE");
        for (int w = 0; w <= 5; w++) {
            for (int kind = 1; kind <= 5; kind++) {
                int of = w;
                int by = kind;
                if (w != kind && !(w > 3 && kind == 3)) {
                    CHECK.found(x, "a word of KIND " + w + " by " + kind, () -> x.tells(of, by), Check.UNLIKE);
                }
            }
        }
        CHECK.sentence(28, "a SEEN one the ICE of its LOOK; a MEET one its CELL");
        x.cell(0, 0, 1, 0);
        CHECK.due("ICE 9, as it was", x.tells(2, 2), 9);
        CHECK.due("CELL 63", x.tells(4, 4), 63);
        tellsAtTheEnds();
    }

    private static void tellsAtTheEnds() {
        CHECK.sentence(28, "a WISH (MEET, LEAVE, too) how many HEARD it: none to five");
        for (int kind = 3; kind <= 5; kind++) {
            IceBoats x = new IceBoats();
            x.say(0, kind, 0);
            CHECK.due("as it is said", x.tells(0, 3), 0);
            x.tick();
            CHECK.due("all others", x.tells(0, 3), 5);
            x.say(5, kind, 0);
            x.tick();
            CHECK.due("all others, the first one, too", x.tells(1, 3), 5);
            IceBoats y = new IceBoats();
            y.say(0, kind, 0);
            y.say(1, kind, 0);
            y.tick();
            CHECK.due("MET is not HEARD", y.tells(0, 3), 1);
            IceBoats z = only(0, 63);
            z.say(0, kind, 0);
            CHECK.ticks(z, 15);
            CHECK.due("none", z.tells(0, 3), 0);
        }
        CHECK.sentence(28, "a LEAVE one how many steps THE HOLE is from the sayer's CELL now (x and y)");
        IceBoats x = new IceBoats();
        x.say(0, 5, 0);
        int[][] runs = {{0, 0, 0}, {0, 63, 14}, {63, 0, 14}, {7, 56, 14}, {7, 8, 8}, {8, 7, 8}, {56, 63, 7}};
        for (int[] run : runs) {
            x.boat(0, 0, run[0], 9);
            x.hole(run[1]);
            CHECK.due("from " + run[0] + " to " + run[1], x.tells(0, 5), run[2]);
        }
        CHECK.sentence(28, "a FAR one how many CELLS were in the sayer's COULD: as it said it");
        IceBoats y = new IceBoats();
        y.cell(0, 3, 1, 0);
        y.say(0, 1, 0);
        y.tick();
        y.say(0, 1, 0);
        CHECK.due("one", y.tells(0, 1), 1);
        CHECK.due("two", y.tells(1, 1), 2);
    }

    private static void neverComes() {
        IceBoats x = new IceBoats();
        CHECK.text(x, 0, "L0");
        x.rules(2, 0);
        x.boat(3, 0, 0, 0);
        x.home(4);
        x.tick();
        x.boat(5, 0, 63, 100);
        x.say(0, 0, 0);
        CHECK.sentence(29, "-11 it never comes (not LOUD, no way, its sayer, not ABLE as it was said)");
        int[] due = {NEVER, NONE, NEVER, NEVER, NEVER, NEVER};
        for (int b = 0; b < 6; b++) {
            CHECK.due("heard(0, " + b + ")", x.heard(0, b), due[b]);
        }
        CHECK.sentence(29, "never: be it ABLE by then, or near");
        for (int b = 2; b < 6; b++) {
            x.boat(b, 0, 0, 100);
        }
        CHECK.due("HEARD by 1 alone", x.tick(), 1);
        CHECK.ticks(x, 13);
        for (int b = 2; b < 6; b++) {
            CHECK.due("heard(0, " + b + ")", x.heard(0, b), NEVER);
        }
        CHECK.sentence(29, "no way: ROCK all around it");
        IceBoats y = only(0, 9);
        y.rock(1, true);
        y.rock(8, true);
        y.say(0, 0, 0);
        y.say(1, 0, 0);
        CHECK.due("out", y.heard(0, 1), NEVER);
        CHECK.due("in", y.heard(1, 0), NEVER);
        y.rock(1, false);
        CHECK.ticks(y, 3);
        CHECK.due("what is no ROCK any more", y.heard(0, 1), NEVER);
        CHECK.sentence(29, "BAD");
        for (int w : new int[] {-1, 2, 40, NONE, LEAST, GREATEST}) {
            CHECK.bad(y, "heard(" + w + ", 0)", () -> y.heard(w, 0));
        }
        for (int b : NO_BOATS) {
            CHECK.bad(y, "heard(0, " + b + ")", () -> y.heard(0, b));
        }
    }

    private static void comesYet() {
        CHECK.sentence(29, "the TICK at which it was HEARD; NONE: it comes yet");
        IceBoats x = only(0, 47);
        x.say(0, 0, 0);
        for (int t = 0; t < 12; t++) {
            CHECK.due("TICK " + t, x.heard(0, 1), NONE);
            x.tick();
        }
        CHECK.due("TICK 12", x.heard(0, 1), 12);
        CHECK.sentence(29, "as it was said: ROCK, WARMTH and CELLS of later on are not looked at");
        IceBoats y = only(0, 3);
        y.say(0, 0, 0);
        for (int c = 0; c < 64; c++) {
            y.cell(c, 0, 4, 0);
        }
        y.rock(1, true);
        y.rock(8, true);
        y.boat(1, 0, 63, 100);
        y.boat(0, 0, 63, 100);
        CHECK.ticks(y, 2);
        CHECK.due("TICK 2", y.heard(0, 1), NONE);
        y.tick();
        CHECK.due("TICK 3", y.heard(0, 1), 3);
    }

    private static void met() {
        CHECK.sentence(29, "-10 MET: If two come to one BOAT in one TICK, both are MET and lost for it");
        for (int many = 1; many <= 5; many++) {
            IceBoats x = new IceBoats();
            for (int b = 0; b < many; b++) {
                x.say(b, 0, 0);
            }
            int sayers = many == 2 ? 2 : 0;
            CHECK.due(many + " come", x.tick(), many == 1 ? 5 : sayers);
            for (int w = 0; w < many; w++) {
                CHECK.due("heard(" + w + ", 5) of " + many, x.heard(w, 5), many == 1 ? 1 : MET);
            }
            is(x, 5, 5, many == 1 ? 1 : 0);
        }
        CHECK.sentence(0, "TIME 0: as TIME 1: it meets one of TIME 1");
        IceBoats x = only(0, 1, 1);
        x.say(0, 0, 0);
        x.say(1, 0, 0);
        CHECK.due("just by the sayers", x.tick(), 2);
        CHECK.due("TIME 1", x.heard(0, 2), MET);
        CHECK.due("TIME 0", x.heard(1, 2), MET);
        CHECK.sentence(0, "in one TICK: words of unlike TICKS meet, too; a TICK apart they do not");
        IceBoats y = only(0, 2, 3);
        y.say(0, 0, 0);
        y.tick();
        y.say(1, 0, 0);
        CHECK.due("word 0 by 1, word 1 by 2", y.tick(), 2);
        CHECK.due("TICK 2, word 1 by 2", y.heard(1, 2), 2);
        CHECK.due("word 0 by 2; word 1 by 0", y.tick(), 2);
        CHECK.due("TICK 3, word 0 by 2", y.heard(0, 2), 3);
        IceBoats z = only(0, 2, 3);
        z.say(0, 0, 0);
        CHECK.ticks(z, 2);
        z.say(1, 0, 0);
        z.tick();
        CHECK.due("said at 0", z.heard(0, 2), MET);
        CHECK.due("said at 2", z.heard(1, 2), MET);
        CHECK.sentence(0, "lost for it: what was MET is not taken in");
        IceBoats v = only(0, 0, 9);
        v.look(0);
        v.say(0, 2, 0);
        v.say(1, 3, 4);
        CHECK.ticks(v, 3);
        CHECK.asked(v, "HELD by 0 and 1", v.looked(0, 2), 3);
        is(v, 2, 1, 9);
        is(v, 2, 2, 100);
    }

    private static void notAbleAsItComes() {
        CHECK.sentence(29, "-12 not ABLE as it came");
        IceBoats x = only(0, 3, 3, 3, 3);
        CHECK.text(x, 0, "L1");
        x.rules(1, 0);
        x.say(0, 0, 0);
        x.hole(3);
        x.home(2);
        x.boat(3, 0, 3, 0);
        CHECK.ticks(x, 2);
        is(x, 1, 0, 4);
        is(x, 2, 0, 6);
        is(x, 3, 0, 5);
        for (int b = 1; b <= 4; b++) {
            CHECK.due("it comes yet", x.heard(0, b), NONE);
        }
        CHECK.due("HEARD by 4 alone", x.tick(), 1);
        for (int b = 1; b <= 3; b++) {
            CHECK.due("heard(0, " + b + ")", x.heard(0, b), DEAF);
        }
        CHECK.due("ABLE", x.heard(0, 4), 3);
        CHECK.sentence(29, "not ABLE as it came: it stays so, be it let down behind it");
        x.boat(3, 0, 3, 100);
        x.tick();
        CHECK.due("heard(0, 3)", x.heard(0, 3), DEAF);
        CHECK.sentence(29, "not ABLE in between, but as it came");
        IceBoats y = only(0, 3);
        y.say(0, 0, 0);
        y.boat(1, 0, 3, 0);
        y.tick();
        is(y, 1, 0, 5);
        y.boat(1, 0, 40, 9);
        CHECK.ticks(y, 2);
        CHECK.due("HEARD", y.heard(0, 1), 3);
        CHECK.sentence(0, "Then all words that come now are heard. Then one with POWER 0 is DEAD");
        IceBoats z = only(0, 1);
        z.say(0, 0, 0);
        z.boat(1, 0, 1, 0);
        CHECK.due("HEARD in its last TICK", z.tick(), 1);
        is(z, 1, 0, 5);
        CHECK.due("heard(0, 1)", z.heard(0, 1), 1);
    }

    // BOAT 1 could be in CELLS 8, 9, 10, .. and truly is where a sayer is put
    private static IceBoats spread(int many) {
        IceBoats x = only(0, 8);
        for (int c = 8; c < 16; c++) {
            x.cell(c, 3, 1, 0);
        }
        CHECK.ticks(x, many - 1);
        for (int c = 8; c < 16; c++) {
            x.cell(c, 0, 1, 0);
        }
        couldBe(x, 1, ((1L << many) - 1) << 8);
        return x;
    }

    private static int cellOf(IceBoats x, int b) {
        x.told(b, 1);
        return x.asked();
    }

    private static void farTookOne() {
        CHECK.sentence(0, "is as long as it took, or is 0 and it took 1");
        IceBoats x = spread(5);
        int at = cellOf(x, 1);
        x.boat(0, 3, at, 100);
        x.say(0, 1, 0);
        x.tick();
        long beside = 1L << at | 1L << at - 1 | 1L << at + 1;
        couldBe(x, 1, beside & 0x1FL << 8);
        IceBoats y = spread(5);
        at = cellOf(y, 1);
        y.boat(0, 3, at + 8, 100);
        y.say(0, 1, 0);
        y.tick();
        couldBe(y, 1, 1L << at);
        CHECK.sentence(0, "or is 0 and it took 1: what took 2 is not from where it is");
        IceBoats z = spread(5);
        at = cellOf(z, 1);
        z.boat(0, 3, at + 16, 100);
        z.say(0, 1, 0);
        CHECK.ticks(z, 2);
        couldBe(z, 1, 1L << at);
        for (int side = -2; side <= 2; side += 4) {
            IceBoats v = spread(5);
            at = cellOf(v, 1);
            v.boat(0, 3, Math.max(8, at + side), 100);
            v.say(0, 1, 0);
            CHECK.ticks(v, 2);
            CHECK.due("HEARD", v.heard(0, 1) > 4 ? 1 : 0, 1);
            int from = cellOf(v, 0);
            int took = v.heard(0, 1) - 4;
            couldBe(v, 1, beside(from, took) & 0x1FL << 8);
        }
    }

    // CELLS to the left and to the right that are as many steps off; the CELL itself, too, for 1
    private static long beside(int from, int took) {
        return 1L << from - took | 1L << from + took | (took == 1 ? 1L << from : 0);
    }

    private static void farAsLongAsItTook() {
        CHECK.sentence(0, "keeps only CELLS to which the TIME from some CELL of the sayer's COULD (as it said it) is as long as it took");
        IceBoats x = spread(3);
        int at = cellOf(x, 1);
        x.boat(0, 3, 15, 100);
        x.say(0, 1, 0);
        x.boat(0, 3, 63, 100);
        CHECK.ticks(x, 15 - at);
        CHECK.due("HEARD", x.heard(0, 1), 2 + 15 - at);
        couldBe(x, 1, 1L << at);
        CHECK.sentence(0, "as long as 12 TICKS");
        IceBoats y = only(0, 47);
        y.cell(47, 2, 1, 0);
        y.say(0, 1, 0);
        y.tick();
        y.cell(47, 0, 1, 0);
        couldBe(y, 1, 3L << 46);
        CHECK.ticks(y, 11);
        CHECK.due("HEARD at 12", y.heard(0, 1), 12);
        couldBe(y, 1, 1L << 47);
        CHECK.sentence(0, "TIME to the CELL, from the sayer's: WARMTH of the CELL that it enters");
        IceBoats z = only(9, 10);
        z.cell(9, 0, 4, 0);
        z.cell(10, 3, 1, 0);
        z.tick();
        z.cell(10, 0, 1, 0);
        z.boat(1, 0, 10, 100);
        z.say(0, 1, 0);
        z.tick();
        CHECK.due("TIME 1, not 4", z.heard(0, 1), 2);
        couldBe(z, 1, 1L << 10);
        CHECK.sentence(0, "by the sea as it is then");
        IceBoats v = spread(2);
        v.boat(1, 3, 8, 100);
        v.cell(8, 3, 1, 0);
        v.boat(0, 3, 10, 100);
        v.say(0, 1, 0);
        v.boat(1, 0, 8, 100);
        v.tick();
        v.cell(8, 0, 1, 0);
        couldBe(v, 1, 3L << 8);
        v.cell(9, 0, 2, 0);
        v.tick();
        CHECK.due("HEARD at 3", v.heard(0, 1), 3);
        couldBe(v, 1, 1L << 9);
    }

    private static void farLeavesNone() {
        CHECK.sentence(0, "(If none is left, COULD stays; a FAR word tells of where the hearer was as it was said.)");
        IceBoats x = only(0, 2);
        x.say(0, 1, 0);
        x.go(1, 4);
        x.tick();
        x.go(1, 4);
        x.tick();
        CHECK.due("HEARD", x.heard(0, 1), 2);
        couldBe(x, 1, 1L << 18);
        IceBoats y = spread(4);
        int at = cellOf(y, 1);
        y.boat(0, 3, at, 100);
        y.say(0, 1, 0);
        y.go(1, 4);
        y.tick();
        CHECK.due("HEARD", y.heard(0, 1), 4);
        couldBe(y, 1, 1L << at + 8);
        CHECK.sentence(0, "a FAR word: COULD of those that do not hear it stays, and the sayer's own");
        IceBoats z = spread(3);
        z.boat(0, 3, 63, 100);
        z.say(0, 1, 0);
        z.say(1, 1, 0);
        CHECK.ticks(z, 14);
        couldBe(z, 1, z.heard(0, 1) == NEVER ? 7L << 8 : cellsAt(z, z.heard(0, 1) - 2));
    }

    private static long cellsAt(IceBoats x, int took) {
        long cells = 0;
        for (int c = 8; c < 11; c++) {
            cells |= x.time(63, c) == took ? 1L << c : 0;
        }
        return cells;
    }

    // BOAT 1 could be in each of the 64 CELLS: a CURRENT led row by row, there and back
    private static IceBoats anywhere() {
        IceBoats x = only(0, 0);
        for (int c = 0; c < 64; c++) {
            boolean right = c / 8 % 2 == 0;
            x.cell(c, c % 8 == (right ? 7 : 0) ? 4 : right ? 3 : 2, 1, 0);
        }
        CHECK.ticks(x, 63);
        for (int c = 0; c < 64; c++) {
            x.cell(c, 0, 1 + c * 7 % 4, 0);
        }
        couldBe(x, 1, -1L);
        return x;
    }

    private static void farWhereItCouldBeAnywhere() {
        CHECK.sentence(0, "COULD of all 64 CELLS: just those to which TIME is as long as it took are kept");
        for (int from : new int[] {0, 7, 27, 56, 63, 36}) {
            IceBoats x = anywhere();
            int at = cellOf(x, 1);
            x.boat(0, 3, from, 100);
            int took = Math.max(x.time(from, at), 1);
            x.say(0, 1, 0);
            if (took > 12) {
                CHECK.due("not LOUD", x.heard(0, 1), NEVER);
                continue;
            }
            CHECK.ticks(x, took);
            CHECK.due("HEARD", x.heard(0, 1), 63 + took);
            long cells = 0;
            for (int c = 0; c < 64; c++) {
                int t = x.time(from, c);
                cells |= t == took || (t == 0 && took == 1) ? 1L << c : 0;
            }
            couldBe(x, 1, cells);
        }
    }

    private static void seen() {
        CHECK.sentence(0, "A SEEN one: the hearer HOLDS the LOOK");
        IceBoats x = new IceBoats();
        x.boat(0, 1, 0, 100);
        for (int l = 0; l < 40; l++) {
            x.look(0);
        }
        CHECK.due("the last of 40", x.say(0, 2, 39), 0);
        CHECK.asked(x, "as it is said", x.looked(39, 2), 1);
        x.tick();
        CHECK.asked(x, "HELD by all", x.looked(39, 2), 63);
        CHECK.asked(x, "the one ahead is not", x.looked(38, 2), 1);
        CHECK.sentence(0, "of a LOOK that it HOLDS: got by a word, too");
        CHECK.due("told on", x.say(5, 2, 39), 1);
        CHECK.state(x, "not the one ahead", () -> x.say(4, 2, 38));
    }

    private static void wishes() {
        CHECK.sentence(0, "A WISH: the hearer's WAY for the next TICK (if it was told none)");
        for (int way = 0; way < 5; way++) {
            IceBoats x = only(27, 27);
            x.say(0, 3, way);
            x.tick();
            is(x, 1, 1, 27);
            x.tick();
            is(x, 1, 1, new int[] {27, 19, 26, 28, 35}[way]);
            is(x, 1, 2, way == 0 ? 100 : 98);
            is(x, 0, 1, 27);
            x.tick();
            is(x, 1, 1, new int[] {27, 19, 26, 28, 35}[way]);
        }
        CHECK.sentence(0, "if it was told none: what it is told behind the WISH counts, WAY 0, too");
        IceBoats x = only(27, 27, 27);
        x.say(0, 3, 3);
        x.tick();
        x.go(1, 0);
        x.go(2, 1);
        x.tick();
        is(x, 1, 1, 27);
        is(x, 2, 1, 19);
        CHECK.sentence(0, "for the next TICK: the WAY that it was told ahead is for the TICK of the hearing");
        IceBoats y = only(27, 27);
        y.say(0, 3, 3);
        y.go(1, 4);
        y.tick();
        is(y, 1, 1, 35);
        y.tick();
        is(y, 1, 1, 36);
    }

    private static void meets() {
        CHECK.sentence(0, "MEET: the WAY 1 to 4 (the first) by which the least CELL of COULD comes nearer to the CELL (by steps x and y together), if one does");
        int[][] runs = {{27, 27, 27}, {27, 0, 19}, {27, 63, 28}, {27, 3, 19}, {27, 59, 35}, {27, 24, 26}, {27, 31, 28}, {27, 7, 19}, {27, 56, 26},
            {0, 63, 1}, {63, 0, 55}, {7, 56, 6}, {56, 7, 48}, {0, 1, 1}, {0, 8, 8}, {7, 8, 6}, {8, 7, 0}};
        for (int[] run : runs) {
            IceBoats x = only(run[0], run[0]);
            x.say(0, 4, run[1]);
            CHECK.ticks(x, 2);
            is(x, 1, 1, run[2]);
            is(x, 1, 2, run[0] == run[2] ? 100 : 98);
        }
        CHECK.sentence(0, "if one does: ROCK on all nearer ones, and a CELL to meet that is ROCK");
        IceBoats x = only(27, 27);
        x.rock(19, true);
        x.say(0, 4, 3);
        CHECK.ticks(x, 2);
        is(x, 1, 1, 27);
        is(x, 1, 2, 100);
        x.say(0, 4, 0);
        CHECK.ticks(x, 2);
        is(x, 1, 1, 26);
        x.boat(1, 0, 27, 100);
        x.say(0, 4, 19);
        CHECK.ticks(x, 2);
        is(x, 1, 1, 27);
    }

    private static void leaves() {
        CHECK.sentence(0, "LEAVE: likewise to THE HOLE");
        int[][] runs = {{27, 27, 27}, {27, 0, 19}, {27, 63, 28}, {0, 63, 1}, {63, 0, 55}, {7, 8, 6}};
        for (int[] run : runs) {
            IceBoats x = only(run[0], run[0]);
            x.hole(run[1]);
            x.say(0, 5, 0);
            CHECK.ticks(x, 2);
            is(x, 1, 1, run[2]);
        }
        IceBoats x = only(27, 27);
        x.hole(3);
        x.rock(19, true);
        x.say(0, 5, 0);
        CHECK.ticks(x, 2);
        is(x, 1, 1, 27);
        is(x, 1, 2, 100);
    }

    private static void knowsOf() {
        IceBoats x = new IceBoats();
        CHECK.sentence(30, "BAD");
        CHECK.bad(x, "no word yet", () -> x.knows(0, 0, NONE, NONE));
        x.say(0, 0, 0);
        for (int w : new int[] {-1, 1, 40, NONE, LEAST, GREATEST}) {
            CHECK.bad(x, "word " + w, () -> x.knows(w, 0, NONE, NONE));
        }
        for (int b : NO_BOATS) {
            CHECK.bad(x, "a " + b, () -> x.knows(0, b, NONE, NONE));
            CHECK.bad(x, "a " + b, () -> x.knows(0, b, 1, 2));
        }
        for (int b : new int[] {-1, 6, -8, -10, LEAST, GREATEST}) {
            CHECK.bad(x, "b " + b, () -> x.knows(0, 0, b, NONE));
            CHECK.bad(x, "b " + b, () -> x.knows(0, 0, b, 1));
            CHECK.bad(x, "c " + b, () -> x.knows(0, 0, 1, b));
            CHECK.bad(x, "b NONE, c " + b, () -> x.knows(0, 0, NONE, b));
        }
        CHECK.sentence(30, "BAD: also b NONE and c not");
        for (int c = 0; c < 6; c++) {
            int of = c;
            CHECK.bad(x, "c " + c, () -> x.knows(0, 0, NONE, of));
        }
        CHECK.sentence(30, "From which TICK on a KNOWS a word (b, c NONE); NONE: it does not");
        CHECK.due("its sayer, from then", x.knows(0, 0, NONE, NONE), 0);
        CHECK.due("another one", x.knows(0, 5, NONE, NONE), NONE);
        x.tick();
        CHECK.due("it HEARD it", x.knows(0, 5, NONE, NONE), 1);
        x.say(1, 0, 0);
        x.say(2, 0, 0);
        x.tick();
        CHECK.due("MET", x.knows(1, 5, NONE, NONE), NONE);
        CHECK.due("HEARD by the other sayer", x.knows(1, 2, NONE, NONE), 2);
        CHECK.due("its sayer", x.knows(2, 2, NONE, NONE), 1);
    }

    private static void chains() {
        CHECK.sentence(30, "from the first TICK at which a HEARD a word that b said at a TICK no earlier than b KNEW");
        IceBoats x = only(0, 2);
        x.say(0, 0, 0);
        x.tick();
        x.say(1, 0, 0);
        CHECK.ticks(x, 2);
        CHECK.due("0 HEARD word 1", x.heard(1, 0), 3);
        CHECK.due("said a TICK too early", x.knows(0, 0, 1, NONE), NONE);
        IceBoats y = only(0, 2);
        y.say(0, 0, 0);
        CHECK.ticks(y, 2);
        y.say(1, 0, 0);
        CHECK.due("not as it is said", y.knows(0, 0, 1, NONE), NONE);
        CHECK.ticks(y, 2);
        CHECK.due("said in the very TICK", y.knows(0, 0, 1, NONE), 4);
        CHECK.due("by the word itself", y.knows(0, 1, 0, NONE), 2);
        CHECK.sentence(30, "(b itself: a like b: as it KNOWS)");
        CHECK.due("a like b", y.knows(0, 1, 1, NONE), 2);
        CHECK.due("the sayer", y.knows(0, 0, 0, NONE), 0);
        CHECK.due("one that does not KNOW", y.knows(0, 5, 5, NONE), NONE);
        CHECK.due("all three alike", y.knows(0, 1, 1, 1), 2);
        CHECK.due("a like b", y.knows(0, 1, 1, 0), 2);
        CHECK.due("b like c", y.knows(0, 0, 1, 1), 4);
        CHECK.sentence(30, "A chain of three likewise");
        CHECK.due("0 that 1 that 0", y.knows(0, 0, 1, 0), 4);
        CHECK.due("1 that 0 that 1, not yet", y.knows(0, 1, 0, 1), NONE);
        y.say(0, 0, 0);
        CHECK.ticks(y, 2);
        CHECK.due("1 that 0 that 1", y.knows(0, 1, 0, 1), 6);
        CHECK.due("of one that does not KNOW", y.knows(0, 1, 0, 5), NONE);
        CHECK.due("by one that does not KNOW", y.knows(0, 5, 1, 0), NONE);
        CHECK.sentence(30, "the first TICK of those at which it HEARD one");
        y.say(1, 0, 0);
        CHECK.ticks(y, 2);
        CHECK.due("as it was", y.knows(0, 0, 1, NONE), 4);
    }

    private static void allKnow() {
        IceBoats x = new IceBoats();
        CHECK.sentence(31, "BAD: bits, none; deep");
        CHECK.bad(x, "no word yet", () -> x.allKnow(0, 1, 1));
        x.tick();
        x.say(0, 0, 0);
        for (int w : new int[] {-1, 1, 40, NONE, LEAST, GREATEST}) {
            CHECK.bad(x, "word " + w, () -> x.allKnow(w, 1, 1));
        }
        for (int set : new int[] {0, -1, 64, 65, 128, NONE, LEAST, GREATEST}) {
            CHECK.bad(x, "bits " + set, () -> x.allKnow(0, set, 1));
        }
        for (int deep : new int[] {0, -1, 4, NONE, LEAST, GREATEST}) {
            CHECK.bad(x, "deep " + deep, () -> x.allKnow(0, 1, deep));
        }
        CHECK.sentence(31, "From which TICK on all of BOATS (bits) KNOW a word (deep 1); NONE");
        CHECK.due("the sayer alone", x.allKnow(0, 1, 1), 1);
        CHECK.due("the last BOAT alone", x.allKnow(0, 32, 1), NONE);
        CHECK.due("all", x.allKnow(0, 63, 1), NONE);
        x.tick();
        CHECK.due("the last BOAT alone", x.allKnow(0, 32, 1), 2);
        CHECK.due("all", x.allKnow(0, 63, 1), 2);
        CHECK.sentence(31, "and each KNOWS so of each (2), and so on (3)");
        for (int deep = 1; deep <= 3; deep++) {
            CHECK.due("one alone, deep " + deep, x.allKnow(0, 1, deep), 1);
            CHECK.due("another one, deep " + deep, x.allKnow(0, 32, deep), 2);
        }
        CHECK.due("two, deep 2", x.allKnow(0, 33, 2), NONE);
        x.say(5, 0, 0);
        x.tick();
        CHECK.due("two, deep 2", x.allKnow(0, 33, 2), 3);
        CHECK.due("two, deep 3", x.allKnow(0, 33, 3), NONE);
        CHECK.due("three, deep 2", x.allKnow(0, 35, 2), NONE);
        x.say(0, 0, 0);
        x.tick();
        CHECK.due("two, deep 3", x.allKnow(0, 33, 3), 4);
        CHECK.due("all, deep 1, as it was", x.allKnow(0, 63, 1), 2);
    }

    // BOATS one step from one another in a row, that speak by turns
    private static void allKnowByChains() {
        CHECK.sentence(31, "all of BOATS, each of each, and so on: the latest of all chains, NONE if one of them is");
        IceBoats x = only(24, 25, 26, 27, 28, 29);
        int[] turns = {0, 3, 5, 1, 4, 2, 0, 1, 5, 2, 3, 4, 0, 5};
        for (int b : turns) {
            x.say(b, 0, 0);
            CHECK.ticks(x, 6);
        }
        for (int w = 0; w < turns.length; w++) {
            for (int set = 1; set <= 63; set++) {
                for (int deep = 1; deep <= 3; deep++) {
                    CHECK.due("allKnow(" + w + ", " + set + ", " + deep + ")", x.allKnow(w, set, deep), latestOfChains(x, w, set, deep));
                }
            }
        }
    }

    private static long latestOfChains(IceBoats x, int w, int set, int deep) {
        int latest = 0;
        for (int i = 0; i < 216; i++) {
            int a = i % 6;
            int b = i / 6 % 6;
            int c = i / 36;
            if ((set >> a & set >> b & set >> c & 1) == 1) {
                int from = x.knows(w, a, deep > 1 ? b : NONE, deep > 2 ? c : NONE);
                if (from == NONE) {
                    return NONE;
                }
                latest = Math.max(latest, from);
            }
        }
        return latest;
    }
}
