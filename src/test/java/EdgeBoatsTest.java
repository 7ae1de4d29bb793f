/** The boundary cases of BOATS, TICKS and LOOKS: promises 15 to 24, and parts 1 and 2 of the terms. */
final class EdgeBoatsTest {
    private static final Check CHECK = new Check("edges of boats");
    private static final int LEAST = Integer.MIN_VALUE, GREATEST = Integer.MAX_VALUE, NONE = IceBoats.NONE;
    private static final int[] NO_BOATS = {-1, 6, NONE, LEAST, GREATEST};
    private static final int LOST = 4, DEAD = 5, HOME = 6;

    public static void main(String[] args) {
        atFirst();
        letDown();
        letDownAgain();
        toldOf();
        marksOfKinds();
        marksAtTheEnds();
        couldOfAll();
        toldWays();
        waysForOneTick();
        powerForWays();
        carriedWhereItIsThen();
        anchors();
        dead();
        lost();
        ticks();
        looks();
        looksAreFull();
        matches();
        homes();
        CHECK.end();
    }

    private static void is(IceBoats x, int b, int what, long due) {
        CHECK.asked(x, "told(" + b + ", " + what + ")", x.told(b, what), due);
    }

    private static void couldBe(IceBoats x, int b, long cells) {
        CHECK.due("could(" + b + ")", x.could(b), Long.bitCount(cells));
        CHECK.due("set()", x.set(), cells);
    }

    // BOATS 3, 4, 5: LOST, DEAD, HOME; 0, 1, 2 are of KIND 0; the TICK is 1, THE HOLE 0
    private static IceBoats oneOfEach() {
        IceBoats x = new IceBoats();
        CHECK.text(x, 3, "L0");
        x.rules(3, 3);
        x.boat(4, 0, 0, 0);
        x.home(5);
        x.tick();
        is(x, 3, 0, LOST);
        is(x, 4, 0, DEAD);
        is(x, 5, 0, HOME);
        return x;
    }

    private static void atFirst() {
        IceBoats x = new IceBoats();
        CHECK.sentence(0, "0 BOAT (all, at first) .. in a CELL (0 at first), has POWER (100 at first) and COULD be in (just its own one, at first)");
        int[] due = {0, 0, 100, 1, 0, 0};
        for (int b = 0; b < 6; b++) {
            for (int what = 0; what < 6; what++) {
                is(x, b, what, due[what]);
            }
            couldBe(x, b, 1);
            CHECK.due("asks: no RULES", x.asks(b), 0);
        }
    }

    private static void letDown() {
        IceBoats x = new IceBoats();
        CHECK.sentence(15, "of a KIND (0 .. 3), in a CELL, with POWER: the ends");
        for (int kind = 0; kind <= 3; kind++) {
            for (int c : new int[] {0, 63}) {
                for (int power : new int[] {0, 1000}) {
                    CHECK.due("boat", x.boat(5, kind, c, power), 1);
                    is(x, 5, 0, kind);
                    is(x, 5, 1, c);
                    is(x, 5, 2, power);
                    couldBe(x, 5, 1L << c);
                }
            }
        }
        CHECK.sentence(15, "BAD");
        x.rock(20, true);
        for (int c : new int[] {0, 20}) {
            for (int b : NO_BOATS) {
                CHECK.bad(x, "BOAT " + b, () -> x.boat(b, 0, c, 1));
            }
            for (int kind : new int[] {-1, 4, 5, 6, LEAST, GREATEST}) {
                CHECK.bad(x, "KIND " + kind, () -> x.boat(0, kind, c, 1));
            }
            for (int power : new int[] {-1, 1001, NONE, LEAST, GREATEST}) {
                CHECK.bad(x, "POWER " + power, () -> x.boat(0, 0, c, power));
            }
        }
        for (int c : new int[] {-1, 64, NONE, LEAST, GREATEST}) {
            CHECK.bad(x, "CELL " + c, () -> x.boat(0, 0, c, 1));
        }
        CHECK.sentence(15, "STATE: ROCK");
        CHECK.state(x, "boat(0, 0, 20, 1)", () -> x.boat(0, 0, 20, 1));
        x.rock(20, false);
        CHECK.due("ROCK no more", x.boat(0, 0, 20, 1), 1);
    }

    private static void letDownAgain() {
        CHECK.sentence(15, "A BOAT is let down (again)");
        IceBoats x = oneOfEach();
        for (int b = 3; b < 6; b++) {
            CHECK.due("BOAT " + b, x.boat(b, b - 3, 9, 50), 1);
            is(x, b, 0, b - 3);
            is(x, b, 5, 1);
            CHECK.due("go: ABLE again", x.go(b, 0), 1);
        }
        CHECK.due("all ABLE", x.count(1), 6);
        CHECK.sentence(15, "COULD is that CELL, it is told no WAY");
        IceBoats y = new IceBoats();
        y.cell(9, 3, 1, 0);
        y.boat(0, 0, 9, 50);
        y.tick();
        couldBe(y, 0, 3L << 9);
        y.go(0, 4);
        y.boat(0, 0, 30, 50);
        couldBe(y, 0, 1L << 30);
        y.tick();
        is(y, 0, 1, 30);
        is(y, 0, 2, 50);
        CHECK.sentence(15, "it is told no WAY, by a WISH that it heard neither");
        y.boat(1, 0, 30, 50);
        y.say(1, 3, 3);
        y.tick();
        y.boat(0, 0, 30, 50);
        y.tick();
        is(y, 0, 1, 30);
        CHECK.sentence(15, "what it HOLDS, said, its RULES stay");
        IceBoats z = new IceBoats();
        CHECK.text(z, 0, "H1L2W3E4");
        z.rules(2, 0);
        z.look(2);
        z.say(2, 0, 0);
        z.boat(2, 2, 63, 0);
        is(z, 2, 4, 1);
        CHECK.due("words said", z.mark(2, 2), 1);
        for (int what = 0; what < 4; what++) {
            CHECK.due("rule(2, " + what + ")", z.rule(2, what), what + 1);
        }
        z.boat(2, 1, 63, 100);
        CHECK.due("LOOKS made", z.mark(2, 1), 1);
        CHECK.state(z, "it said one in this TICK", () -> z.say(2, 0, 0));
    }

    private static void toldOf() {
        IceBoats x = new IceBoats();
        CHECK.sentence(16, "BAD");
        for (int b : NO_BOATS) {
            CHECK.bad(x, "told(" + b + ", 0)", () -> x.told(b, 0));
            CHECK.bad(x, "told(" + b + ", 6)", () -> x.told(b, 6));
        }
        for (int what : new int[] {-1, 6, NONE, LEAST, GREATEST}) {
            CHECK.bad(x, "told(0, " + what + ")", () -> x.told(0, what));
        }
        CHECK.sentence(16, "5 the TICK at which it heard last (0 at first, and as it is let down: THE TICK)");
        is(x, 1, 5, 0);
        CHECK.ticks(x, 3);
        is(x, 1, 5, 0);
        x.boat(1, 0, 0, 100);
        is(x, 1, 5, 3);
        x.say(0, 0, 0);
        x.tick();
        is(x, 1, 5, 4);
        x.tick();
        is(x, 1, 5, 4);
        x.boat(1, 0, 0, 100);
        is(x, 1, 5, 5);
        is(x, 0, 5, 0);
        CHECK.sentence(16, "4 how many LOOKS it HOLDS: none to 40");
        x.boat(1, 1, 0, 100);
        for (int l = 0; l < 40; l++) {
            is(x, 1, 4, l);
            x.look(1);
        }
        is(x, 1, 4, 40);
        is(x, 2, 4, 0);
    }

    private static void marksOfKinds() {
        CHECK.sentence(17, "BAD: also KIND 0");
        IceBoats x = oneOfEach();
        for (int b = 0; b < 6; b++) {
            int of = b;
            for (int kind : new int[] {0, -1, 7, NONE, LEAST, GREATEST}) {
                CHECK.bad(x, "mark(" + b + ", " + kind + ")", () -> x.mark(of, kind));
            }
        }
        for (int b : NO_BOATS) {
            CHECK.bad(x, "mark(" + b + ", 1)", () -> x.mark(b, 1));
            CHECK.bad(x, "mark(" + b + ", 0)", () -> x.mark(b, 0));
        }
        CHECK.sentence(17, "UNLIKE");
        for (int kind = 1; kind <= 6; kind++) {
            int by = kind;
            CHECK.found(x, "a BOAT of KIND 0 by " + kind, () -> x.mark(0, by), Check.UNLIKE);
        }
        x.boat(0, 1, 0, 9);
        x.boat(1, 2, 0, 9);
        x.boat(2, 3, 0, 9);
        boolean[][] is = {
            {true, false, false, false, false, false}, {false, true, false, false, false, false}, {false, true, true, false, false, false},
            {false, false, false, true, false, false}, {false, false, false, true, true, false}, {false, false, false, false, false, true}};
        for (int b = 0; b < 6; b++) {
            for (int kind = 1; kind <= 6; kind++) {
                int of = b;
                int by = kind;
                if (is[b][kind - 1]) {
                    CHECK.due("BOAT " + b + " IS of KIND " + kind, x.mark(b, kind) >= 0 ? 1 : 0, 1);
                } else {
                    CHECK.found(x, "BOAT " + b + " by KIND " + kind, () -> x.mark(of, by), Check.UNLIKE);
                }
            }
        }
    }

    private static void marksAtTheEnds() {
        CHECK.sentence(17, "a MAPPER how many LOOKS it made: none to 40");
        IceBoats x = new IceBoats();
        x.boat(0, 1, 0, 100);
        for (int l = 0; l <= 40; l++) {
            CHECK.due("LOOKS made", x.mark(0, 1), l);
            x.look(0);
        }
        CHECK.due("one that was FULL is not made", x.mark(0, 1), 40);
        CHECK.sentence(17, "a CARRIER (ANCHOR, too) how many words it said: none at first");
        x.boat(1, 2, 0, 3);
        x.boat(2, 3, 0, 3);
        CHECK.due("a CARRIER", x.mark(1, 2), 0);
        CHECK.due("an ANCHOR", x.mark(2, 2), 0);
        CHECK.due("a word", x.say(1, 0, 0), 0);
        CHECK.due("a word", x.say(2, 0, 0), 1);
        CHECK.due("a CARRIER", x.mark(1, 2), 1);
        CHECK.due("an ANCHOR", x.mark(2, 2), 1);
        CHECK.due("refused: said one", x.say(1, 0, 0), IceBoats.STATE);
        CHECK.due("one that was refused is not said", x.mark(1, 2), 1);
        CHECK.sentence(17, "an ANCHOR since when it lies there");
        CHECK.due("from the start", x.mark(2, 3), 0);
        x.tick();
        x.tick();
        x.boat(2, 3, 0, 3);
        CHECK.due("since 2", x.mark(2, 3), 2);
        x.tick();
        CHECK.due("since 2, still", x.mark(2, 3), 2);
        CHECK.sentence(17, "a LOST one (DEAD, too) since when");
        IceBoats y = oneOfEach();
        y.tick();
        CHECK.due("LOST", y.mark(3, 4), 1);
        CHECK.due("DEAD", y.mark(4, 4), 1);
        CHECK.sentence(17, "a DEAD one how many LOOKS only it HOLDS");
        CHECK.due("none", y.mark(4, 5), 0);
        deadHolds();
        CHECK.sentence(17, "a HOME one its POWER");
        for (int power : new int[] {0, 1, 1000}) {
            y.boat(5, 0, 0, power);
            y.home(5);
            CHECK.due("POWER " + power, y.mark(5, 6), power);
        }
    }

    private static void deadHolds() {
        IceBoats x = new IceBoats();
        x.boat(0, 1, 0, 43);
        for (int l = 0; l < 40; l++) {
            x.look(0);
        }
        x.say(0, 2, 39);
        x.tick();
        is(x, 0, 0, DEAD);
        CHECK.due("all but the one that was told", x.mark(0, 5), 39);
        is(x, 0, 4, 40);
        is(x, 1, 4, 1);
    }

    // A CURRENT along one way through all CELLS: row by row, there and back
    private static void couldOfAll() {
        IceBoats x = new IceBoats();
        for (int c = 0; c < 64; c++) {
            boolean right = c / 8 % 2 == 0;
            int end = right ? 7 : 0;
            x.cell(c, c % 8 == end ? 4 : right ? 3 : 2, 1, 0);
        }
        x.boat(0, 0, 0, 100);
        long cells = 1;
        int at = 0;
        CHECK.sentence(18, "COULD of a BOAT by set(): how many CELLS: from one to all 64");
        for (int t = 0; t < 64; t++) {
            couldBe(x, 0, cells);
            is(x, 0, 3, Math.min(t + 1, 64));
            x.tick();
            boolean right = at / 8 % 2 == 0;
            at = at % 8 == (right ? 7 : 0) ? at + 8 : right ? at + 1 : at - 1;
            cells |= at < 64 ? 1L << at : 0;
        }
        couldBe(x, 0, -1L);
        CHECK.sentence(18, "BAD");
        for (int b : NO_BOATS) {
            CHECK.bad(x, "could(" + b + ")", () -> x.could(b));
        }
    }

    private static void toldWays() {
        IceBoats x = oneOfEach();
        CHECK.sentence(19, "BAD");
        for (int b : new int[] {0, 3}) {
            for (int way : new int[] {-1, 5, NONE, LEAST, GREATEST}) {
                CHECK.bad(x, "go(" + b + ", " + way + ")", () -> x.go(b, way));
            }
        }
        for (int b : NO_BOATS) {
            CHECK.bad(x, "go(" + b + ", 0)", () -> x.go(b, 0));
        }
        CHECK.sentence(19, "STATE: not ABLE");
        for (int b = 3; b < 6; b++) {
            int of = b;
            CHECK.state(x, "go(" + b + ", 0)", () -> x.go(of, 0));
            CHECK.state(x, "go(" + b + ", 4)", () -> x.go(of, 4));
        }
        CHECK.sentence(19, "A BOAT is told a WAY for the next TICK: 1.");
        for (int kind = 0; kind <= 3; kind++) {
            x.boat(0, kind, 27, 10);
            for (int way = 0; way < 5; way++) {
                CHECK.due("go of KIND " + kind, x.go(0, way), 1);
            }
        }
        CHECK.due("POWER 0 is no hindrance", x.boat(0, 0, 27, 0), 1);
        CHECK.due("it is told", x.go(0, 4), 1);
    }

    private static void waysForOneTick() {
        IceBoats x = new IceBoats();
        x.boat(0, 0, 27, 10);
        CHECK.sentence(0, "goes by the WAY it was told (go(); 0, if none was since the TICK ahead");
        x.go(0, 3);
        x.tick();
        is(x, 0, 1, 28);
        x.tick();
        is(x, 0, 1, 28);
        is(x, 0, 2, 8);
        CHECK.sentence(0, "the WAY told last, 0 too");
        x.go(0, 3);
        x.go(0, 0);
        x.tick();
        is(x, 0, 1, 28);
        is(x, 0, 2, 8);
        x.go(0, 0);
        x.go(0, 1);
        x.tick();
        is(x, 0, 1, 20);
        is(x, 0, 2, 6);
        CHECK.sentence(0, "What is refused changes nothing: the WAY stays as told");
        x.go(0, 4);
        CHECK.bad(x, "go(0, 5)", () -> x.go(0, 5));
        CHECK.bad(x, "go(0, -1)", () -> x.go(0, -1));
        x.tick();
        is(x, 0, 1, 28);
    }

    private static void powerForWays() {
        CHECK.sentence(0, "which takes 2 of POWER unless it is 0 (with less than 2 it stays, and knows that");
        int[][] runs = {{0, 27, 0, DEAD}, {1, 27, 1, 0}, {2, 28, 0, DEAD}, {3, 28, 1, 0}, {1000, 28, 998, 0}};
        for (int[] run : runs) {
            IceBoats x = new IceBoats();
            x.boat(0, 0, 27, run[0]);
            x.go(0, 3);
            x.tick();
            is(x, 0, 1, run[1]);
            is(x, 0, 2, run[2]);
            is(x, 0, 0, run[3]);
            couldBe(x, 0, 1L << run[1]);
        }
        CHECK.sentence(0, "with less than 2 it stays, and may be carried all the same");
        IceBoats x = new IceBoats();
        x.cell(27, 4, 1, 0);
        x.boat(0, 0, 27, 1);
        x.go(0, 3);
        x.tick();
        couldBe(x, 0, 1L << 27 | 1L << 35);
        CHECK.sentence(0, "unless it is 0: WAY 0 takes none");
        for (int power : new int[] {1, 2, 1000}) {
            IceBoats y = new IceBoats();
            y.boat(0, 0, 27, power);
            y.go(0, 0);
            y.tick();
            is(y, 0, 2, power);
        }
        CHECK.sentence(0, "if the WAY does not lead on, it takes 2, too");
        IceBoats z = new IceBoats();
        z.boat(0, 0, 0, 2);
        z.go(0, 1);
        z.rock(28, true);
        z.boat(1, 0, 27, 3);
        z.go(1, 3);
        z.tick();
        is(z, 0, 1, 0);
        is(z, 0, 2, 0);
        is(z, 0, 0, DEAD);
        is(z, 1, 1, 27);
        is(z, 1, 2, 1);
    }

    private static void carriedWhereItIsThen() {
        CHECK.sentence(0, "by the CURRENT of the CELL in which it is then");
        IceBoats x = new IceBoats();
        x.cell(27, 1, 1, 0);
        x.cell(28, 4, 1, 0);
        x.boat(0, 0, 27, 10);
        x.go(0, 3);
        x.tick();
        couldBe(x, 0, 1L << 28 | 1L << 36);
        CHECK.sentence(0, "COULD becomes all CELLS to which its WAY and then the CURRENT, or none, lead from one of COULD");
        x.go(0, 2);
        x.tick();
        couldBe(x, 0, 1L << 27 | 1L << 19 | 1L << 35);
    }

    private static void anchors() {
        CHECK.sentence(0, "an ANCHOR stays (an ANCHOR is not carried; an ANCHOR's COULD stays)");
        IceBoats x = new IceBoats();
        x.cell(27, 3, 1, 0);
        x.boat(0, 3, 27, 2);
        for (int t = 0; t < 8; t++) {
            x.go(0, 4);
            x.tick();
        }
        is(x, 0, 1, 27);
        is(x, 0, 2, 2);
        is(x, 0, 0, 3);
        couldBe(x, 0, 1L << 27);
    }

    private static void dead() {
        CHECK.sentence(0, "an ABLE one with POWER 0 is DEAD");
        for (int kind = 0; kind <= 3; kind++) {
            IceBoats x = new IceBoats();
            x.boat(0, kind, 9, 0);
            x.boat(1, kind, 9, 1);
            is(x, 0, 0, kind);
            CHECK.due("ABLE ahead of the TICK", x.count(1), 6);
            x.tick();
            is(x, 0, 0, DEAD);
            is(x, 1, 0, kind);
            CHECK.due("ABLE behind it", x.count(1), 5);
        }
        CHECK.sentence(0, "an ABLE one: one that is HOME or LOST is not DEAD");
        IceBoats x = oneOfEach();
        x.boat(5, 0, 0, 0);
        x.home(5);
        x.boat(3, 0, 0, 4);
        x.tick();
        is(x, 5, 0, HOME);
        is(x, 3, 0, LOST);
        CHECK.sentence(0, "DEAD goes ahead of LOST");
        x.boat(3, 0, 0, 0);
        x.tick();
        is(x, 3, 0, DEAD);
    }

    private static void lost() {
        CHECK.sentence(0, "one that heard nothing for more than L TICKS (of its RULES, if L is there) is LOST");
        for (int l : new int[] {0, 1, 2, 9}) {
            IceBoats x = new IceBoats();
            CHECK.text(x, 0, "L" + l);
            x.rules(0, 0);
            CHECK.ticks(x, l);
            is(x, 0, 0, 0);
            x.tick();
            is(x, 0, 0, LOST);
            CHECK.due("since", x.mark(0, 4), l + 1);
            is(x, 1, 0, 0);
        }
        CHECK.sentence(0, "heard nothing: one that hears in the last TICK is not LOST, one for which words are MET is");
        IceBoats x = new IceBoats();
        CHECK.text(x, 0, "L1");
        x.rules(0, 0);
        x.tick();
        x.say(1, 0, 0);
        x.tick();
        is(x, 0, 0, 0);
        x.tick();
        is(x, 0, 0, 0);
        x.say(1, 0, 0);
        x.say(2, 0, 0);
        x.tick();
        is(x, 0, 0, LOST);
        CHECK.sentence(0, "heard nothing since it was let down");
        x.boat(0, 0, 0, 100);
        x.tick();
        is(x, 0, 0, 0);
        x.tick();
        is(x, 0, 0, LOST);
        CHECK.sentence(0, "RULES that come late count from what was heard last");
        IceBoats y = new IceBoats();
        CHECK.ticks(y, 5);
        CHECK.text(y, 0, "L5");
        y.rules(0, 0);
        CHECK.text(y, 0, "L6");
        y.rules(1, 0);
        y.tick();
        is(y, 0, 0, LOST);
        is(y, 1, 0, 0);
    }

    private static void ticks() {
        IceBoats x = new IceBoats();
        CHECK.text(x, 0, "L998");
        x.rules(0, 0);
        CHECK.text(x, 0, "L999W999E999");
        x.rules(1, 0);
        x.boat(2, 3, 0, 1000);
        x.boat(3, 3, 0, 1000);
        CHECK.due("W at TICK 0", x.asks(1), 2);
        CHECK.sentence(20, "how many words were HEARD in it: none");
        for (int t = 1; t <= 997; t++) {
            CHECK.due("TICK " + t, x.tick(), 0);
        }
        CHECK.due("W at TICK 997", x.asks(1), 0);
        x.boat(3, 3, 2, 1000);
        x.boat(5, 3, 1, 1000);
        x.say(2, 0, 0);
        CHECK.due("TICK 998: HEARD by 0, 1, 4 and 5", x.tick(), 4);
        x.boat(5, 3, 4, 1000);
        x.say(2, 0, 0);
        CHECK.due("TICK 999: HEARD by 0, 1, 3 (word 0 at TIME 2) and 4", x.tick(), 4);
        CHECK.due("HEARD at 999", x.heard(1, 0), 999);
        CHECK.due("it would come at 1000", x.heard(1, 3), NONE);
        CHECK.due("W at TICK 999", x.asks(1), 2);
        CHECK.sentence(20, "STATE: THE TICK is 999");
        x.go(0, 3);
        CHECK.state(x, "tick()", () -> x.tick());
        CHECK.state(x, "tick() again", () -> x.tick());
        CHECK.due("THE TICK", x.count(0), 999);
        is(x, 0, 1, 0);
        CHECK.due("it comes yet, for ever", x.heard(1, 3), NONE);
        lostAtTheLast();
        heardByAll();
    }

    // Three pairs that do not hear one another: too far off, and one behind ROCK
    private static void heardByAll() {
        CHECK.sentence(20, "how many words were HEARD in it: one by each BOAT at most");
        IceBoats x = new IceBoats();
        x.rock(6, true);
        x.rock(15, true);
        int[] at = {0, 0, 63, 63, 7, 7};
        for (int b = 0; b < 6; b++) {
            x.boat(b, 0, at[b], 3);
        }
        for (int b = 0; b < 6; b++) {
            CHECK.due("say", x.say(b, 0, 0), b);
        }
        CHECK.due("each hears one", x.tick(), 6);
        CHECK.due("all are DEAD behind it", x.count(4), 6);
        CHECK.due("none is ABLE", x.count(1), 0);
        CHECK.due("a TICK of none", x.tick(), 0);
    }

    private static void lostAtTheLast() {
        CHECK.sentence(0, "LOST behind n TICKS: n has three digits, THE TICK is 999 at most");
        IceBoats x = new IceBoats();
        CHECK.text(x, 0, "L998");
        x.rules(0, 0);
        CHECK.text(x, 0, "L999");
        x.rules(1, 0);
        CHECK.ticks(x, 998);
        is(x, 0, 0, 0);
        x.tick();
        is(x, 0, 0, LOST);
        is(x, 1, 0, 0);
        CHECK.due("since 999", x.mark(0, 4), 999);
    }

    private static void looks() {
        CHECK.sentence(0, "A LOOK takes 4 of POWER (a MAPPER: 1)");
        int[] takes = {4, 1, 4, 4};
        for (int kind = 0; kind <= 3; kind++) {
            IceBoats x = new IceBoats();
            x.boat(0, kind, 9, takes[kind]);
            x.boat(1, kind, 9, takes[kind] - 1);
            x.boat(2, kind, 9, 1000);
            CHECK.due("just enough", x.look(0), 0);
            is(x, 0, 2, 0);
            is(x, 0, 0, kind);
            CHECK.sentence(21, "STATE: not ABLE, or not enough POWER");
            CHECK.state(x, "one too little", () -> x.look(1));
            CHECK.state(x, "none left", () -> x.look(0));
            CHECK.due("the next one's number", x.look(2), 1);
            is(x, 2, 2, 1000 - takes[kind]);
        }
        IceBoats x = oneOfEach();
        for (int b = 3; b < 6; b++) {
            int of = b;
            CHECK.state(x, "not ABLE: " + b, () -> x.look(of));
        }
        CHECK.sentence(21, "BAD");
        for (int b : NO_BOATS) {
            CHECK.bad(x, "look(" + b + ")", () -> x.look(b));
        }
        CHECK.sentence(22, "BAD");
        CHECK.bad(x, "no LOOK yet", () -> x.looked(0, 0));
        x.look(0);
        for (int l : new int[] {-1, 1, NONE, LEAST, GREATEST}) {
            CHECK.bad(x, "looked(" + l + ", 0)", () -> x.looked(l, 0));
        }
        for (int what : new int[] {-1, 4, NONE, LEAST, GREATEST}) {
            CHECK.bad(x, "looked(0, " + what + ")", () -> x.looked(0, what));
        }
    }

    private static void looksAreFull() {
        IceBoats x = oneOfEach();
        x.cell(63, 0, 1, 9);
        x.boat(0, 1, 63, 41);
        x.boat(1, 0, 0, 3);
        CHECK.sentence(0, "Its NAME is its number (0 .. 39: 40 at most)");
        for (int l = 0; l < 40; l++) {
            CHECK.due("LOOK", x.look(0), l);
        }
        int[] due = {63, 9, 1, 1};
        for (int what = 0; what < 4; what++) {
            CHECK.asked(x, "looked(39, " + what + ")", x.looked(39, what), due[what]);
        }
        CHECK.bad(x, "looked(40, 0)", () -> x.looked(40, 0));
        CHECK.sentence(21, "FULL");
        CHECK.full(x, "a LOOK more", () -> x.look(0));
        CHECK.full(x, "another one's", () -> x.look(2));
        CHECK.sentence(21, "(FULL behind STATE.)");
        CHECK.state(x, "not enough POWER", () -> x.look(1));
        for (int b = 3; b < 6; b++) {
            int of = b;
            CHECK.state(x, "not ABLE: " + b, () -> x.look(of));
        }
        CHECK.sentence(21, "BAD goes ahead of FULL");
        CHECK.bad(x, "look(6)", () -> x.look(6));
        CHECK.bad(x, "look(-1)", () -> x.look(-1));
        CHECK.sentence(23, "as its latest: the one that was FULL is none");
        CHECK.due("match by LOOK 39", x.match(0), 1);
    }

    private static void matches() {
        IceBoats x = oneOfEach();
        CHECK.sentence(23, "BAD");
        for (int b : NO_BOATS) {
            CHECK.bad(x, "match(" + b + ")", () -> x.match(b));
        }
        CHECK.sentence(23, "STATE: none such");
        for (int b = 0; b < 6; b++) {
            int of = b;
            CHECK.state(x, "no LOOK at all: " + b, () -> x.match(of));
        }
        x.look(0);
        x.say(0, 2, 0);
        CHECK.state(x, "another one's LOOK", () -> x.match(1));
        CHECK.due("its own one, in this TICK", x.match(0), 1);
        x.tick();
        CHECK.state(x, "of the TICK ahead", () -> x.match(0));
        CHECK.state(x, "got by a word", () -> x.match(1));
        x.look(0);
        CHECK.due("NOW again", x.match(0), 1);
        spreadMatches();
        CHECK.sentence(23, "at TICK 0, too");
        IceBoats y = new IceBoats();
        CHECK.state(y, "none yet", () -> y.match(0));
        y.look(0);
        CHECK.due("made at 0", y.match(0), 1);
    }

    // COULD of three CELLS, 8, 9, 10, all of ICE 4
    private static IceBoats spread() {
        IceBoats x = new IceBoats();
        for (int c = 8; c < 11; c++) {
            x.cell(c, 3, 1, 4);
        }
        x.boat(0, 0, 8, 100);
        CHECK.ticks(x, 2);
        couldBe(x, 0, 7L << 8);
        x.look(0);
        return x;
    }

    private static void spreadMatches() {
        CHECK.sentence(0, "COULD keeps only CELLS for which the CHART tells that ICE, or nothing");
        IceBoats x = spread();
        CHECK.due("a CHART that tells nothing", x.match(0), 3);
        x.chart(8, 4);
        x.chart(9, 4);
        CHECK.due("that ICE, or nothing", x.match(0), 3);
        couldBe(x, 0, 7L << 8);
        x.chart(10, 0);
        CHECK.due("another ICE, 0", x.match(0), 2);
        couldBe(x, 0, 3L << 8);
        x.chart(8, 9);
        CHECK.due("another ICE, 9", x.match(0), 1);
        couldBe(x, 0, 1L << 9);
        matchesAtTheEnds();
        CHECK.sentence(23, "(If none would be left, COULD stays.)");
        IceBoats y = spread();
        for (int c = 8; c < 11; c++) {
            y.chart(c, 5);
        }
        CHECK.due("none would be left", y.match(0), 3);
        couldBe(y, 0, 7L << 8);
        y.chart(9, 4);
        CHECK.due("just one is left", y.match(0), 1);
        couldBe(y, 0, 1L << 9);
        y.chart(9, 3);
        CHECK.due("none of one would be left", y.match(0), 1);
        couldBe(y, 0, 1L << 9);
        CHECK.sentence(23, "COULD of a BOAT keeps what the CHART lets by the ICE as it was seen");
        IceBoats z = spread();
        for (int c = 8; c < 11; c++) {
            z.cell(c, 0, 1, 7);
        }
        z.chart(8, 4);
        z.chart(9, 7);
        CHECK.due("not as it is by then", z.match(0), 2);
        couldBe(z, 0, 5L << 8);
    }

    private static void matchesAtTheEnds() {
        CHECK.sentence(0, "COULD keeps only CELLS for which the CHART tells that ICE: the first CELL and the last one");
        for (int last = 0; last < 2; last++) {
            IceBoats x = new IceBoats();
            int end = 63 * last;
            int beside = 1 + 61 * last;
            x.cell(beside, last == 0 ? 2 : 3, 1, 0);
            x.boat(0, 0, beside, 100);
            x.tick();
            x.look(0);
            CHECK.due("nothing told", x.match(0), 2);
            couldBe(x, 0, 1L << end | 1L << beside);
            x.chart(end, 9);
            CHECK.due("without the end", x.match(0), 1);
            couldBe(x, 0, 1L << beside);
            x.boat(0, 0, beside, 100);
            x.tick();
            x.look(0);
            x.chart(end, 0);
            x.chart(beside, 9);
            CHECK.due("just the end", x.match(0), 1);
            couldBe(x, 0, 1L << end);
        }
    }

    private static void homes() {
        IceBoats x = oneOfEach();
        CHECK.sentence(24, "BAD");
        for (int b : NO_BOATS) {
            CHECK.bad(x, "home(" + b + ")", () -> x.home(b));
        }
        CHECK.sentence(24, "STATE: HOME comes a BOAT that is ABLE and in THE HOLE's CELL");
        for (int b = 3; b < 6; b++) {
            int of = b;
            CHECK.state(x, "there, not ABLE: " + b, () -> x.home(of));
        }
        x.hole(63);
        CHECK.state(x, "ABLE, not there", () -> x.home(0));
        x.boat(0, 0, 62, 9);
        CHECK.state(x, "beside it", () -> x.home(0));
        x.boat(1, 3, 63, 0);
        CHECK.due("an ANCHOR without POWER", x.home(1), 1);
        is(x, 1, 0, HOME);
        is(x, 1, 1, 63);
        CHECK.sentence(24, "by where it truly is, not by where it could be");
        IceBoats y = new IceBoats();
        y.cell(9, 3, 1, 0);
        y.boat(0, 0, 9, 100);
        y.tick();
        y.told(0, 1);
        int at = y.asked();
        couldBe(y, 0, 3L << 9);
        y.hole(19 - at);
        CHECK.state(y, "it only could be there", () -> y.home(0));
        y.hole(at);
        CHECK.due("it is there", y.home(0), 1);
    }
}
