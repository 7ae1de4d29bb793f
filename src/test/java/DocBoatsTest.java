/** Along the document: LOTS and BOATS of part 1 of the terms, part 2, and promises 15 to 24. */
final class DocBoatsTest {
    private static final Check CHECK = new Check("the document: boats");
    private static final int NONE = IceBoats.NONE;
    private static final int MAPPER = Fleet.MAPPER, ANCHOR = Fleet.ANCHOR, LOST = Fleet.LOST, DEAD = Fleet.DEAD, HOME = Fleet.HOME;

    public static void main(String[] args) {
        atFirst();
        theTick();
        toldOfEach();
        aLotForEachBoat();
        noLotButInATick();
        kindsThatOneIs();
        ableOnes();
        notAbleOnesStay();
        goingThenCarried();
        eachKindIsCarried();
        waysStayTold();
        couldIsWhatItKnows();
        deadThenLost();
        whatLosingLeaves();
        whatEndingLeaves();
        looksOfEachKind();
        looksHeld();
        trueCellOfLooks();
        matchesByOwnLooks();
        matchesOfAnyKind();
        letDownAgain();
        marks();
        homes();
        CHECK.end();
    }

    private static void is(IceBoats x, int b, int what, long due) {
        CHECK.asked(x, "told(" + b + ", " + what + ")", x.told(b, what), due);
    }

    private static void atFirst() {
        CHECK.quote(0, "BOATS 0 .. 5 are of a KIND: 0 BOAT (all, at first)");
        IceBoats x = new IceBoats();
        for (int b = 0; b < 6; b++) {
            is(x, b, 0, 0);
        }
        CHECK.bad(x, "there is no BOAT 6", () -> x.told(6, 0));
        CHECK.quote(0, "Each is in a CELL (0 at first), has POWER (0 .. 1000; 100 at first) and COULD be in a set of CELLS (just its own one, at first).");
        for (int b = 0; b < 6; b++) {
            is(x, b, 1, 0);
            is(x, b, 2, 100);
            CHECK.due("COULD", Fleet.could(x, b), 1);
        }
        CHECK.due("POWER 0", x.boat(0, 0, 0, 0), 1);
        CHECK.due("POWER 1000", x.boat(0, 0, 0, 1000), 1);
        CHECK.bad(x, "POWER 1001", () -> x.boat(0, 0, 0, 1001));
        CHECK.bad(x, "POWER -1", () -> x.boat(0, 0, 0, -1));
    }

    private static void theTick() {
        CHECK.quote(0, "THE TICK is 0 at first (999 at most).");
        IceBoats x = new IceBoats();
        for (int t = 0; t < 999; t++) {
            CHECK.due("THE TICK", x.count(0), t);
            CHECK.due("tick()", x.tick(), 0);
        }
        CHECK.due("THE TICK", x.count(0), 999);
        CHECK.state(x, "no more", x::tick);
        CHECK.quote(20, "STATE: THE TICK is 999.");
        CHECK.state(x, "never more", x::tick);
        CHECK.due("what is no TICK goes on", x.look(0), 0);
        CHECK.asked(x, "at 999", x.looked(0, 3), 999);
    }

    private static void toldOfEach() {
        CHECK.quote(16, "Of a BOAT: 0 its KIND, 1 CELL, 2 POWER, 3 how many CELLS are in COULD, 4 how many LOOKS it HOLDS, 5 the TICK at which it heard last (0 at first, and as it is let down: THE TICK), told by asked(): 1.");
        IceBoats x = Fleet.only(40, 9);
        Fleet.currents(x, 4);
        x.boat(0, 2, 40, 77);
        x.look(0);
        x.look(0);
        x.say(1, 0, 0);
        x.seed(Fleet.seedFor("11"));
        x.tick();
        int[] due = {2, 48, 69, 2, 2, 0};
        for (int what = 0; what < 6; what++) {
            is(x, 0, what, due[what]);
        }
        // 9 to 40 takes 5
        CHECK.ticks(x, 3);
        is(x, 0, 5, 0);
        CHECK.due("heard", x.tick(), 1);
        is(x, 0, 5, 5);
        x.boat(0, 0, 1, 1);
        is(x, 0, 5, 5);
        x.tick();
        x.boat(0, 0, 1, 1);
        is(x, 0, 5, 6);
        is(x, 0, 4, 2);
        is(x, 0, 3, 1);
    }

    private static void aLotForEachBoat() {
        CHECK.quote(0, "for each BOAT carried in a TICK l = l times 1103515245 and 12345 (an int that wraps), and its bits 16 and on (15 of them), modulo 4: 0: the CURRENT does not carry; else it does.");
        for (int l = 1; l <= 40; l++) {
            IceBoats x = new IceBoats();
            x.hole(63);
            for (int b = 0; b < 6; b++) {
                x.boat(b, b == 2 ? ANCHOR : 0, 8 * b, 100);
                x.cell(8 * b, b == 1 ? 0 : 3, 1, 0);
            }
            x.seed(l);
            x.tick();
            Fleet.Lots lots = new Fleet.Lots(l);
            for (int b = 0; b < 6; b++) {
                // BOAT 1 draws, too, though there is no CURRENT; BOAT 2 is an ANCHOR, and draws none
                boolean carried = b != 2 && lots.carries() && b != 1;
                is(x, b, 1, 8 * b + (carried ? 1 : 0));
            }
        }
        CHECK.quote(0, "(an ANCHOR is not carried, and draws none)");
        for (int kind : new int[] {ANCHOR, LOST, DEAD, HOME}) {
            IceBoats x = Fleet.ofKind(kind, 40, 10);
            x.boat(1, 0, 8, 100);
            x.cell(8, 3, 1, 0);
            x.cell(40, 3, 1, 0);
            x.seed(Fleet.seedFor("01"));
            x.tick();
            is(x, 1, 1, 8);
            is(x, 0, 1, 40);
            x.tick();
            is(x, 1, 1, 9);
            is(x, 0, 1, 40);
        }
        CHECK.quote(0, "then it may be carried: by the CURRENT of the CELL in which it is then, by its LOT");
        for (int way = 0; way < 5; way++) {
            // a WAY that does not lead on, a CURRENT that does not, a BOAT without POWER: each draws its LOT
            IceBoats x = Fleet.only(0, 63);
            x.cell(0, 2, 1, 0);
            x.cell(63, 2, 1, 0);
            x.boat(0, 0, 0, way);
            x.go(0, way);
            x.go(1, 4);
            x.seed(Fleet.seedFor("01"));
            x.tick();
            is(x, 1, 1, 62);
        }
    }

    private static void noLotButInATick() {
        CHECK.quote(0, "LOTS: a number l (1 at first; told by seed()); for each BOAT carried in a TICK");
        for (int call = 0; call < 16; call++) {
            IceBoats x = Fleet.only(8, 56);
            x.row(0, 1);
            x.row(1, 0);
            x.text(0, 0);
            x.cell(8, 3, 1, 0);
            x.cell(56, 3, 1, 0);
            x.seed(Fleet.seedFor("01"));
            int answer = callOf(call, x);
            CHECK.due("call " + call + " is not refused", answer >= 0 ? 1 : 0, 1);
            x.boat(0, 0, 8, 100);
            x.boat(1, 0, 56, 100);
            x.tick();
            is(x, 0, 1, 8);
            is(x, 1, 1, 57);
        }
        CHECK.quote(0, "Then all words that come now are heard");
        IceBoats x = Fleet.only(8, 24);
        x.cell(8, 3, 1, 0);
        x.say(1, 0, 0);
        // BOAT 0 hears at TICK 2; that draws no LOT
        x.seed(Fleet.seedFor("000010"));
        for (int t = 1; t <= 2; t++) {
            CHECK.due("tick()", x.tick(), t == 2 ? 1 : 0);
            is(x, 0, 1, 8);
        }
        x.tick();
        is(x, 0, 1, 9);
    }

    private static int callOf(int call, IceBoats x) {
        switch (call) {
            case 0: return x.look(0);
            case 1: return x.say(0, 1, 0);
            case 2: return x.go(0, 3);
            case 3: return x.could(0);
            case 4: return x.told(0, 1);
            case 5: return x.odds(0, 0);
            case 6: return x.courses(0, 0, 1);
            case 7: return x.plan(3, 1);
            case 8: return x.asks(0);
            case 9: return x.digest() == 0 ? -1 : 0;
            case 10: return x.rules(0, 0);
            case 11: return x.boat(5, 0, 0, 100) + x.home(5);
            case 12: return x.time(0, 63);
            case 13: return x.mapped(63);
            case 14: return x.hole(9);
            default: return x.look(0) + x.match(0);
        }
    }

    private static void kindsThatOneIs() {
        CHECK.quote(0, "1 MAPPER (a BOAT), 2 CARRIER (a BOAT), 3 ANCHOR (a CARRIER), 4 LOST (a BOAT), 5 DEAD (a LOST one), 6 HOME (a BOAT).");
        String[] is = {"", "1", "2", "23", "4", "45", "6"};
        for (int kind = 0; kind <= 6; kind++) {
            IceBoats x = Fleet.ofKind(kind, 9, 50);
            is(x, 0, 0, kind);
            for (int k = 1; k <= 6; k++) {
                int asked = k;
                if (is[kind].indexOf('0' + k) < 0) {
                    CHECK.found(x, "a " + kind + " is no " + k, () -> x.mark(0, asked), Check.UNLIKE);
                } else {
                    CHECK.due("a " + kind + " is a " + k, x.mark(0, k) >= 0 ? 1 : 0, 1);
                }
            }
            CHECK.bad(x, "KIND 0 of a " + kind, () -> x.mark(0, 0));
        }
    }

    private static void ableOnes() {
        CHECK.quote(0, "Those of KIND 0 to 3 are ABLE.");
        for (int kind = 0; kind <= 6; kind++) {
            int able = kind <= ANCHOR ? 1 : 0;
            IceBoats x = Fleet.ofKind(kind, 9, 50);
            CHECK.due("count of " + kind, x.count(1), able);
            x.boat(1, 0, 10, 100);
            x.say(1, 3, 4);
            CHECK.due("a word comes to a " + kind, x.heard(0, 0), able == 1 ? NONE : -11);
            CHECK.due("heard by a " + kind, x.tick(), able);
            CHECK.due("a " + kind + " looks", x.look(0) == 0 ? 1 : 0, able);
            CHECK.due("a " + kind + " says", x.say(0, 0, 0) == 1 ? 1 : 0, able);
            CHECK.due("a " + kind + " is told a WAY", x.go(0, 3) == 1 ? 1 : 0, able);
            CHECK.due("ASKED of a " + kind, x.asks(0) == 0 ? 1 : 0, able);
            x.hole(9);
            CHECK.due("a " + kind + " comes HOME", x.home(0) == 1 ? 1 : 0, able);
            is(x, 0, 0, able == 1 ? HOME : kind);
        }
    }

    private static void notAbleOnesStay() {
        CHECK.quote(0, "A TICK: each ABLE BOAT, by numbers: goes by the WAY it was told");
        for (int kind = LOST; kind <= HOME; kind++) {
            IceBoats x = Fleet.ofKind(kind, 9, 50);
            Fleet.currents(x, 3);
            int power = Fleet.power(x, 0);
            CHECK.ticks(x, 8);
            is(x, 0, 1, 9);
            is(x, 0, 2, power);
            is(x, 0, 0, kind);
            CHECK.due("COULD of a " + kind, Fleet.could(x, 0), 1L << 9);
        }
        CHECK.quote(19, "A BOAT is told a WAY for the next TICK: 1.");
        // told a WAY, it comes HOME ahead of the next TICK; let down again it is told none
        IceBoats x = Fleet.only(9);
        x.go(0, 3);
        x.hole(9);
        x.home(0);
        x.tick();
        is(x, 0, 1, 9);
        x.boat(0, 0, 9, 50);
        x.tick();
        is(x, 0, 1, 9);
        is(x, 0, 2, 50);
    }

    private static void goingThenCarried() {
        CHECK.quote(0, "then it may be carried: by the CURRENT of the CELL in which it is then, by its LOT");
        IceBoats x = Fleet.only(18);
        x.cell(18, 1, 1, 0);
        x.cell(19, 4, 1, 0);
        x.go(0, 3);
        x.seed(Fleet.seedFor("1"));
        x.tick();
        is(x, 0, 1, 27);
        CHECK.due("COULD", Fleet.could(x, 0), Fleet.cells(19, 27));
        IceBoats y = Fleet.only(18);
        y.cell(18, 1, 1, 0);
        y.cell(10, 2, 1, 0);
        y.go(0, 3);
        y.seed(Fleet.seedFor("1"));
        y.tick();
        is(y, 0, 1, 19);
        CHECK.due("COULD", Fleet.could(y, 0), Fleet.cells(19));
        // the CURRENT carries once, not by the one of the CELL to which it carried
        IceBoats z = Fleet.only(18);
        z.cell(18, 3, 1, 0);
        z.cell(19, 3, 1, 0);
        z.seed(Fleet.seedFor("1"));
        z.tick();
        is(z, 0, 1, 19);
        CHECK.due("COULD", Fleet.could(z, 0), Fleet.cells(18, 19));
    }

    private static void eachKindIsCarried() {
        CHECK.quote(0, "(an ANCHOR is not carried, and draws none)");
        for (int kind = 0; kind <= ANCHOR; kind++) {
            IceBoats x = Fleet.only(9);
            x.boat(0, kind, 9, 50);
            x.cell(9, 4, 1, 0);
            x.seed(Fleet.seedFor("1"));
            x.tick();
            is(x, 0, 1, kind == ANCHOR ? 9 : 17);
            CHECK.due("COULD of a " + kind, Fleet.could(x, 0), kind == ANCHOR ? Fleet.cells(9) : Fleet.cells(9, 17));
            x.boat(0, kind, 9, 50);
            x.go(0, 3);
            x.tick();
            is(x, 0, 1, kind == ANCHOR ? 9 : 10);
            is(x, 0, 2, kind == ANCHOR ? 50 : 48);
            CHECK.due("COULD of a " + kind, Fleet.could(x, 0), kind == ANCHOR ? Fleet.cells(9) : Fleet.cells(10));
        }
        CHECK.quote(0, "(an ANCHOR's stays)");
        // an ANCHOR's COULD of two CELLS: FAR words and LOOKS alone make it less
        IceBoats x = Fleet.only(9);
        x.boat(0, ANCHOR, 9, 50);
        Fleet.currents(x, 3);
        CHECK.ticks(x, 5);
        CHECK.due("COULD", Fleet.could(x, 0), Fleet.cells(9));
    }

    private static void waysStayTold() {
        CHECK.quote(19, "A BOAT is told a WAY for the next TICK: 1.");
        for (int call = 0; call < 16; call++) {
            if (call == 2 || call == 11) {
                continue;
            }
            IceBoats x = Fleet.only(9, 40);
            x.row(0, 1);
            x.row(1, 0);
            x.text(0, 0);
            x.go(0, 3);
            CHECK.due("call " + call + " is not refused", callOf(call, x) >= 0 ? 1 : 0, 1);
            int power = Fleet.power(x, 0);
            x.tick();
            is(x, 0, 1, 10);
            is(x, 0, 2, power - 2);
        }
        CHECK.due("2 of POWER are taken as it goes, not as it is told", powerAsTold(), 100);
        CHECK.quote(0, "(go(); 0, if none was since the TICK ahead; an ANCHOR stays)");
        IceBoats x = Fleet.only(9);
        x.go(0, 3);
        x.go(0, 4);
        x.tick();
        is(x, 0, 1, 17);
        x.tick();
        is(x, 0, 1, 17);
        is(x, 0, 2, 98);
    }

    private static int powerAsTold() {
        IceBoats x = Fleet.only(9);
        x.go(0, 3);
        return Fleet.power(x, 0);
    }

    // COULD is narrowed to CELLS in which it is not: from then on it knows of these alone
    private static void couldIsWhatItKnows() {
        CHECK.quote(0, "COULD becomes all CELLS to which its WAY and then the CURRENT, or none, lead from one of COULD");
        IceBoats x = Fleet.only(9);
        x.cell(9, 3, 1, 2);
        x.cell(10, 0, 1, 5);
        x.chart(9, 5);
        x.chart(10, 2);
        x.seed(Fleet.seedFor("1"));
        x.tick();
        is(x, 0, 1, 10);
        x.look(0);
        CHECK.due("the CHART is wrong: ICE 5 is told of 9", x.match(0), 1);
        CHECK.due("COULD", Fleet.could(x, 0), Fleet.cells(9));
        x.go(0, 4);
        x.tick();
        is(x, 0, 1, 18);
        CHECK.due("COULD, without where it is", Fleet.could(x, 0), Fleet.cells(17));
        x.look(0);
        is(x, 0, 4, 2);
        CHECK.asked(x, "a LOOK is of the true CELL", x.looked(1, 0), 18);
        CHECK.quote(0, "(with less than 2 it stays, and knows that; if the WAY does not lead on, it takes 2, too)");
        x.boat(0, 0, 9, 1);
        x.go(0, 4);
        x.seed(Fleet.seedFor("0"));
        x.tick();
        CHECK.due("COULD: it knows that it stayed", Fleet.could(x, 0), Fleet.cells(9, 10));
        is(x, 0, 2, 1);
    }

    private static void deadThenLost() {
        CHECK.quote(0, "Then, by numbers, an ABLE one with POWER 0 is DEAD; one that heard nothing for more than L TICKS (of its RULES, if L is there) is LOST.");
        for (int kind = 0; kind <= ANCHOR; kind++) {
            IceBoats x = Fleet.only(9);
            x.boat(0, kind, 9, 50);
            Fleet.rules(x, 0, "L2");
            CHECK.ticks(x, 2);
            is(x, 0, 0, kind);
            x.tick();
            is(x, 0, 0, LOST);
            CHECK.due("since when", x.mark(0, LOST), 3);
            x.boat(0, kind, 9, 0);
            is(x, 0, 0, kind);
            x.tick();
            is(x, 0, 0, DEAD);
            CHECK.due("since when", x.mark(0, LOST), 4);
        }
        // what takes the last of POWER leaves it ABLE until the next TICK is over
        IceBoats x = Fleet.only(9, 10, 11);
        x.boat(0, 0, 9, 2);
        x.boat(1, 0, 10, 3);
        x.boat(2, 0, 11, 4);
        x.go(0, 3);
        x.say(1, 0, 0);
        x.look(2);
        for (int b = 0; b < 3; b++) {
            is(x, b, 0, 0);
        }
        CHECK.due("ABLE", x.count(1), 3);
        CHECK.due("heard by two that end in this TICK", x.tick(), 2);
        for (int b = 0; b < 3; b++) {
            is(x, b, 0, DEAD);
            is(x, b, 2, 0);
        }
    }

    private static void whatLosingLeaves() {
        CHECK.quote(0, "one that heard nothing for more than L TICKS (of its RULES, if L is there) is LOST.");
        IceBoats x = Fleet.only(9);
        x.cell(9, 3, 1, 4);
        x.look(0);
        Fleet.rules(x, 0, "H1 L1 W2 E3");
        x.seed(Fleet.seedFor("00"));
        CHECK.ticks(x, 2);
        is(x, 0, 0, LOST);
        is(x, 0, 1, 9);
        is(x, 0, 2, 96);
        CHECK.due("COULD as it was", Fleet.could(x, 0), Fleet.cells(9, 10));
        is(x, 0, 4, 1);
        is(x, 0, 5, 0);
        int[] rules = {1, 1, 2, 3};
        for (int k = 0; k < 4; k++) {
            CHECK.due("rule(0, " + k + ") stays", x.rule(0, k), rules[k]);
        }
        // words that come are not heard, and it stays LOST
        x.boat(0, 0, 9, 50);
        x.boat(1, 0, 12, 50);
        x.say(1, 0, 0);
        CHECK.ticks(x, 2);
        is(x, 0, 0, LOST);
        x.tick();
        CHECK.due("not ABLE as it came", x.heard(0, 0), -12);
        is(x, 0, 0, LOST);
        is(x, 0, 5, 2);
        x.say(1, 0, 0);
        CHECK.ticks(x, 12);
        is(x, 0, 0, LOST);
        CHECK.due("since when", x.mark(0, LOST), 4);
        // nor is it found by words, or ABLE again, if its RULES tell nothing of it any more
        IceBoats y = Fleet.only(9, 12);
        Fleet.rules(y, 0, "L0");
        y.say(1, 0, 0);
        y.tick();
        is(y, 0, 0, LOST);
        Fleet.rules(y, 0, "");
        CHECK.ticks(y, 2);
        CHECK.due("not ABLE as it came", y.heard(0, 0), -12);
        is(y, 0, 0, LOST);
        CHECK.due("since when", y.mark(0, LOST), 1);
    }

    private static void whatEndingLeaves() {
        CHECK.quote(0, "an ABLE one with POWER 0 is DEAD");
        for (int kind : new int[] {LOST, DEAD, HOME}) {
            // heard at 1, a LOOK, two CELLS in COULD, RULES: all stay as it becomes LOST, DEAD or HOME
            IceBoats x = Fleet.only(9, 8);
            Fleet.rules(x, 0, kind == LOST ? "H1L1W2E3" : "H1L9W2E3");
            x.say(1, 0, 0);
            x.tick();
            x.boat(0, 0, 9, kind == DEAD ? 4 : 8);
            x.cell(9, 3, 1, 5);
            x.hole(9);
            x.look(0);
            x.seed(Fleet.seedFor("0000"));
            x.tick();
            if (kind == HOME) {
                x.home(0);
            }
            x.tick();
            is(x, 0, 0, kind);
            is(x, 0, 1, 9);
            is(x, 0, 2, kind == DEAD ? 0 : 4);
            is(x, 0, 3, 2);
            is(x, 0, 4, 1);
            is(x, 0, 5, 1);
            CHECK.due("COULD", Fleet.could(x, 0), Fleet.cells(9, 10));
            for (int k = 0; k < 4; k++) {
                CHECK.due("rule " + k, x.rule(0, k), k == 1 ? kind == LOST ? 1 : 9 : k == 0 ? 1 : k);
            }
            CHECK.due("it KNOWS", x.knows(0, 0, NONE, NONE), 1);
        }
    }

    private static void looksOfEachKind() {
        CHECK.quote(0, "A LOOK takes 4 of POWER (a MAPPER: 1): the ICE above the BOAT's CELL.");
        for (int kind = 0; kind <= ANCHOR; kind++) {
            int takes = kind == MAPPER ? 1 : 4;
            IceBoats x = Fleet.only(9);
            x.cell(9, 0, 1, 6);
            x.boat(0, kind, 9, 2 * takes);
            CHECK.due("of a " + kind, x.look(0), 0);
            is(x, 0, 2, takes);
            CHECK.due("twice in a TICK", x.look(0), 1);
            is(x, 0, 2, 0);
            CHECK.state(x, "no POWER", () -> x.look(0));
            CHECK.asked(x, "ICE", x.looked(1, 1), 6);
            CHECK.asked(x, "CELL", x.looked(1, 0), 9);
            CHECK.asked(x, "TICK", x.looked(1, 3), 0);
            x.cell(9, 0, 1, 7);
            CHECK.asked(x, "ICE as it was seen", x.looked(1, 1), 6);
        }
    }

    private static void looksHeld() {
        CHECK.quote(21, "A BOAT looks: the LOOK.");
        IceBoats many = new IceBoats();
        for (int l = 0; l < 40; l++) {
            CHECK.due("LOOK " + l, many.look(l % 6), l);
        }
        CHECK.full(many, "no more", () -> many.look(0));
        CHECK.quote(22, "Of a LOOK: 0 its CELL, 1 ICE, 2 BOATS that HOLD it (bits), 3 THE TICK at which it was, told by asked(): 1.");
        IceBoats x = new IceBoats();
        for (int b = 0; b < 6; b++) {
            CHECK.due("by " + b, x.look(b), b);
            CHECK.asked(x, "HELD by " + b, x.looked(b, 2), 1 << b);
        }
        x.tick();
        x.look(3);
        CHECK.asked(x, "TICK", x.looked(6, 3), 1);
        CHECK.asked(x, "TICK of an older one", x.looked(5, 3), 0);
        CHECK.quote(0, "It has CELL (the true one), ICE, and is HELD by the BOAT (others get it by words).");
        // neither by being HOME together nor in one CELL does another one get it
        for (int b = 0; b < 6; b++) {
            CHECK.due("home", x.home(b), 1);
        }
        x.tick();
        for (int l = 0; l < 6; l++) {
            CHECK.asked(x, "HELD", x.looked(l, 2), 1 << l);
        }
        for (int kind = LOST; kind <= HOME; kind++) {
            IceBoats y = Fleet.only(9);
            y.hole(9);
            y.look(0);
            y.look(0);
            becomes(y, kind);
            is(y, 0, 0, kind);
            is(y, 0, 4, 2);
            CHECK.asked(y, "HELD by a " + kind, y.looked(1, 2), 1);
            CHECK.due("mapped by a " + kind, y.mapped(1), 1);
            CHECK.due("not by others", y.mapped(62), 0);
        }
    }

    // BOAT 0, in THE HOLE, becomes LOST or DEAD or HOME, with what it HOLDS.
    private static void becomes(IceBoats x, int kind) {
        if (kind == LOST) {
            Fleet.rules(x, 0, "L0");
        } else if (kind == DEAD) {
            x.boat(0, 0, 9, 0);
        } else {
            x.home(0);
        }
        x.tick();
    }

    private static void trueCellOfLooks() {
        CHECK.quote(0, "It has CELL (the true one), ICE, and is HELD by the BOAT (others get it by words).");
        IceBoats x = Fleet.only(9);
        x.cell(9, 3, 1, 1);
        x.cell(10, 0, 1, 2);
        x.seed(Fleet.seedFor("1"));
        x.tick();
        x.look(0);
        CHECK.asked(x, "CELL", x.looked(0, 0), 10);
        CHECK.asked(x, "ICE", x.looked(0, 1), 2);
        CHECK.due("COULD stays by a LOOK", Fleet.could(x, 0), Fleet.cells(9, 10));
        x.chart(9, 1);
        x.look(0);
        CHECK.due("COULD stays by a LOOK, be there a CHART", Fleet.could(x, 0), Fleet.cells(9, 10));
        CHECK.due("until it is matched", x.match(0), 1);
        CHECK.due("COULD", Fleet.could(x, 0), Fleet.cells(10));
        is(x, 0, 2, 92);
        CHECK.due("again", x.match(0), 1);
        is(x, 0, 2, 92);
    }

    private static void matchesByOwnLooks() {
        CHECK.quote(23, "COULD of a BOAT keeps what the CHART lets by a LOOK that it made NOW (in this TICK, as its latest): how many CELLS.");
        IceBoats x = Fleet.only(9, 17);
        x.cell(9, 3, 1, 3);
        x.chart(9, 4);
        x.look(1);
        x.say(1, 2, 0);
        x.seed(Fleet.seedFor("10"));
        CHECK.due("heard", x.tick(), 1);
        is(x, 0, 4, 1);
        CHECK.state(x, "a LOOK that it got", () -> x.match(0));
        CHECK.due("COULD stays by a SEEN word", Fleet.could(x, 0), Fleet.cells(9, 10));
        x.look(1);
        CHECK.state(x, "another one's LOOK", () -> x.match(0));
        x.look(0);
        CHECK.due("its own", x.match(0), 1);
        CHECK.due("COULD", Fleet.could(x, 0), Fleet.cells(10));
        CHECK.due("set() stays as could() told", x.set(), Fleet.cells(10));
        // the latest of two, by ICE as each saw it
        IceBoats y = Fleet.only(9);
        y.cell(9, 3, 1, 1);
        y.chart(9, 1);
        y.chart(10, 2);
        y.seed(Fleet.seedFor("0"));
        y.tick();
        y.look(0);
        y.cell(9, 3, 1, 2);
        y.look(0);
        y.cell(9, 3, 1, 1);
        CHECK.due("by the latest", y.match(0), 1);
        CHECK.due("COULD", Fleet.could(y, 0), Fleet.cells(10));
    }

    private static void matchesOfAnyKind() {
        CHECK.quote(23, "STATE: none such.");
        // it came HOME behind the LOOK: the LOOK was made in this TICK all the same
        IceBoats x = Fleet.only(9);
        x.cell(9, 3, 1, 1);
        x.chart(10, 2);
        x.seed(Fleet.seedFor("0"));
        x.tick();
        x.look(0);
        x.hole(9);
        x.home(0);
        CHECK.due("of a HOME one", x.match(0), 1);
        CHECK.due("COULD", Fleet.could(x, 0), Fleet.cells(9));
        // an ANCHOR, let down where it is let down again: COULD is narrowed likewise
        IceBoats y = Fleet.only(9, 40);
        y.cell(9, 3, 1, 1);
        y.seed(Fleet.seedFor("00"));
        y.tick();
        y.look(0);
        y.boat(0, ANCHOR, 20, 50);
        CHECK.due("let down again in this TICK", y.match(0), 1);
        y.tick();
        CHECK.state(y, "in the next one", () -> y.match(0));
        CHECK.quote(23, "(If none would be left, COULD stays.)");
        IceBoats z = Fleet.only(9);
        z.cell(9, 3, 1, 1);
        z.seed(Fleet.seedFor("0"));
        z.tick();
        z.chart(9, 5);
        z.chart(10, 5);
        z.look(0);
        CHECK.due("both stay", z.match(0), 2);
        // what became ROCK behind it is kept as the CHART lets
        z.boat(0, 0, 9, 50);
        z.seed(Fleet.seedFor("1"));
        z.tick();
        z.rock(9, true);
        z.chart(9, NONE);
        z.look(0);
        CHECK.due("ROCK is a CELL of COULD", z.match(0), 1);
        CHECK.due("COULD", Fleet.could(z, 0), Fleet.cells(9));
    }

    private static void letDownAgain() {
        CHECK.quote(15, "COULD is that CELL, it is told no WAY; what it HOLDS, said, its RULES stay: 1.");
        IceBoats x = Fleet.only(9, 12);
        x.look(0);
        Fleet.rules(x, 0, "H5L6W7E8");
        x.say(0, 0, 0);
        x.say(1, 0, 0);
        x.go(0, 3);
        CHECK.due("let down again", x.boat(0, 2, 11, 77), 1);
        is(x, 0, 0, 2);
        is(x, 0, 1, 11);
        is(x, 0, 2, 77);
        is(x, 0, 3, 1);
        is(x, 0, 4, 1);
        CHECK.due("COULD", Fleet.could(x, 0), Fleet.cells(11));
        CHECK.due("words that it said", x.mark(0, 2), 1);
        for (int k = 0; k < 4; k++) {
            CHECK.due("rule " + k, x.rule(0, k), 5 + k);
        }
        CHECK.state(x, "it said one in this TICK", () -> x.say(0, 0, 0));
        CHECK.due("the word to it comes yet", x.heard(1, 0), NONE);
        CHECK.due("TICK 1", x.tick(), 0);
        is(x, 0, 1, 11);
        CHECK.due("TICK 2", x.tick(), 0);
        CHECK.due("TICK 3: as long as it was from where they were", x.tick(), 2);
        CHECK.due("heard", x.heard(1, 0), 3);
        CHECK.due("heard", x.heard(0, 1), 3);
        CHECK.due("it KNOWS of what it said as it was another KIND", x.knows(0, 0, NONE, NONE), 0);
        x.boat(1, 0, 12, 50);
        CHECK.due("it KNOWS what it heard before it was let down", x.knows(0, 1, NONE, NONE), 3);
        CHECK.due("where another BOAT is", x.boat(0, 0, 12, 0), 1);
        is(x, 0, 2, 0);
        for (int kind = LOST; kind <= HOME; kind++) {
            IceBoats y = Fleet.ofKind(kind, 9, 50);
            CHECK.due("a " + kind + " is let down", y.boat(0, 1, 10, 1000), 1);
            is(y, 0, 0, 1);
            is(y, 0, 2, 1000);
            is(y, 0, 5, 1);
        }
    }

    private static void marks() {
        CHECK.quote(17, "a MAPPER how many LOOKS it made");
        IceBoats x = Fleet.only(9, 17);
        x.boat(0, MAPPER, 9, 50);
        x.look(1);
        x.say(1, 2, 0);
        x.tick();
        is(x, 0, 4, 1);
        CHECK.due("it HOLDS one, but made none", x.mark(0, MAPPER), 0);
        x.look(0);
        x.look(0);
        CHECK.due("made two", x.mark(0, MAPPER), 2);
        is(x, 0, 4, 3);
        CHECK.quote(17, "a CARRIER (ANCHOR, too) how many words it said, an ANCHOR since when it lies there");
        x.boat(2, ANCHOR, 18, 50);
        x.tick();
        x.boat(3, 2, 40, 50);
        x.say(2, 0, 0);
        x.say(3, 1, 0);
        x.tick();
        x.say(3, 1, 0);
        CHECK.due("an ANCHOR's words", x.mark(2, 2), 1);
        CHECK.due("a CARRIER's words", x.mark(3, 2), 2);
        CHECK.due("an ANCHOR lies there since", x.mark(2, ANCHOR), 1);
        is(x, 2, 2, 47);
        is(x, 3, 2, 44);
        x.go(2, 3);
        CHECK.ticks(x, 2);
        CHECK.due("be it told a WAY", x.mark(2, ANCHOR), 1);
        x.boat(2, ANCHOR, 18, 50);
        CHECK.due("let down there again", x.mark(2, ANCHOR), 5);
        CHECK.quote(17, "a DEAD one how many LOOKS only it HOLDS, a HOME one its POWER.");
        IceBoats y = Fleet.only(9, 17);
        y.look(0);
        y.look(0);
        y.say(0, 2, 0);
        y.tick();
        y.boat(0, 0, 9, 0);
        y.tick();
        is(y, 0, 4, 2);
        CHECK.due("one only it HOLDS", y.mark(0, DEAD), 1);
        y.hole(17);
        y.home(1);
        CHECK.due("POWER", y.mark(1, HOME), 100);
        CHECK.due("be the other one HOME", y.mark(0, DEAD), 1);
    }

    private static void homes() {
        CHECK.quote(0, "HOME comes a BOAT that is ABLE and in THE HOLE's CELL.");
        for (int kind = 0; kind <= ANCHOR; kind++) {
            IceBoats w = Fleet.ofKind(kind, 9, 1);
            CHECK.state(w, "a " + kind + " elsewhere", () -> w.home(0));
            w.hole(9);
            CHECK.due("a " + kind, w.home(0), 1);
            is(w, 0, 0, HOME);
        }
        CHECK.quote(24, "A BOAT comes HOME: 1.");
        IceBoats x = Fleet.only(9, 8);
        x.cell(9, 3, 1, 0);
        x.hole(10);
        x.seed(Fleet.seedFor("10"));
        x.say(1, 0, 0);
        CHECK.due("heard", x.tick(), 1);
        CHECK.ticks(x, 3);
        x.boat(0, 0, 9, 50);
        x.seed(Fleet.seedFor("10"));
        x.tick();
        CHECK.due("it comes HOME", x.home(0), 1);
        is(x, 0, 0, HOME);
        is(x, 0, 1, 10);
        is(x, 0, 2, 50);
        CHECK.due("COULD stays", Fleet.could(x, 0), Fleet.cells(9, 10));
        is(x, 0, 5, 4);
        CHECK.due("HOME ones", x.count(5), 5);
        CHECK.state(x, "once", () -> x.home(0));
        // it is where it is, be it that it knows that it could not be
        IceBoats y = Fleet.only(9);
        y.cell(9, 3, 1, 2);
        y.chart(9, 2);
        y.chart(10, 1);
        y.seed(Fleet.seedFor("1"));
        y.tick();
        y.cell(10, 0, 1, 2);
        y.look(0);
        y.match(0);
        CHECK.due("COULD not be there", Fleet.could(y, 0), Fleet.cells(9));
        y.hole(10);
        CHECK.due("HOME all the same", y.home(0), 1);
        CHECK.due("COULD stays", Fleet.could(y, 0), Fleet.cells(9));
    }
}
