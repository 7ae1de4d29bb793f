/** Along the document: part 4 of the terms, and promises 32 to 35. */
final class DocRulesTest {
    private static final Check CHECK = new Check("the document: rules");
    private static final int NONE = IceBoats.NONE;

    public static void main(String[] args) {
        items();
        faults();
        rulesOfABoat();
        goHome();
        goHomeByTheLeastCell();
        sayAndLook();
        theFirstThatFits();
        askedOnly();
        askedOfEachKind();
        lost();
        CHECK.end();
    }

    private static int faultOf(String signs) {
        IceBoats x = new IceBoats();
        CHECK.text(x, 0, signs);
        return x.fault(0);
    }

    // H, L, W, E of a TEXT, or where it is at FAULT.
    private static void read(String signs, int... due) {
        IceBoats x = new IceBoats();
        CHECK.text(x, 0, signs);
        CHECK.due("fault of '" + signs + "'", x.fault(0), NONE);
        int told = 0;
        for (int v : due) {
            told += v == NONE ? 0 : 1;
        }
        CHECK.due("rules of '" + signs + "'", x.rules(0, 0), told);
        for (int k = 0; k < 4; k++) {
            CHECK.due("'" + signs + "', " + k, x.rule(0, k), due[k]);
        }
    }

    private static void items() {
        CHECK.quote(0, "RULES of a BOAT are a TEXT's items, with blanks (32) ahead, between, behind as many as wanted");
        read("", NONE, NONE, NONE, NONE);
        read("   ", NONE, NONE, NONE, NONE);
        read("H1", 1, NONE, NONE, NONE);
        read("  H1", 1, NONE, NONE, NONE);
        read("H1  ", 1, NONE, NONE, NONE);
        read("H1L2W3E4", 1, 2, 3, 4);
        read("E4W3L2H1", 1, 2, 3, 4);
        read("  H1  L2  W3  E4  ", 1, 2, 3, 4);
        CHECK.quote(0, "n: one to three digits.");
        read("H0L00W001E010", 0, 0, 1, 10);
        read("H999L999W999E999", 999, 999, 999, 999);
        read("H123 L45 W6 E078", 123, 45, 6, 78);
        CHECK.quote(0, "Of alike items the last counts.");
        read("H1H2 H3", 3, NONE, NONE, NONE);
        read("W9 L8 W1 E2 L0 E3", NONE, 0, 1, 3);
        read("H999H0", 0, NONE, NONE, NONE);
    }

    private static void faults() {
        CHECK.quote(0, "A FAULT is the first place at which it can't go on so (the TEXT's size, if its end comes too early; W 0, E 0: the place behind).");
        String[] texts = {"H", "  H", "H1L", "H1 L", "L1 2", "H 1", "1", "H1,L2", "H1234", "H12L1234", "h1", "HH1", "H-1", "W0", "W00",
            "W000", "E0", "E000", "W0W1", "W1 W0 ", "E0 E0", "W0001", "X", "H1 X", "H1X2", "HX", "H1H", "W0X", "WX", "W 0", "L1W0E"};
        int[] due = {1, 3, 3, 4, 3, 1, 0, 2, 4, 7, 0, 1, 1, 2, 3,
            4, 2, 4, 2, 5, 2, 4, 0, 3, 2, 1, 3, 2, 1, 1, 4};
        for (int i = 0; i < texts.length; i++) {
            CHECK.due("'" + texts[i] + "'", faultOf(texts[i]), due[i]);
        }
        CHECK.quote(33, "STATE: a FAULT. (STATE behind NOTHING.)");
        for (String signs : texts) {
            IceBoats x = new IceBoats();
            Fleet.rules(x, 2, "H7E8");
            CHECK.text(x, 0, signs);
            CHECK.state(x, "'" + signs + "'", () -> x.rules(2, 0));
            CHECK.due("H stays", x.rule(2, 0), 7);
            CHECK.due("E stays", x.rule(2, 3), 8);
        }
        CHECK.quote(32, "A FAULT of a TEXT; NONE: there is none.");
        IceBoats x = new IceBoats();
        CHECK.text(x, 0, "X");
        for (int t = 1; t < 4; t++) {
            x.text(t, t);
            CHECK.due("of TEXT " + t + " alone", x.fault(t), NONE);
        }
        CHECK.due("of TEXT 0", x.fault(0), 0);
        CHECK.due("finding() is none", x.finding(), 0);
        // it is told alone: no BOAT's RULES become others by it
        for (int b = 0; b < 6; b++) {
            Fleet.rules(x, b, "H1L2W3E4");
        }
        CHECK.text(x, 0, "H5L6W7E8");
        CHECK.due("none", x.fault(0), NONE);
        for (int b = 0; b < 6; b++) {
            for (int k = 0; k < 4; k++) {
                CHECK.due("rule(" + b + ", " + k + ")", x.rule(b, k), k + 1);
            }
        }
    }

    private static void rulesOfABoat() {
        CHECK.quote(33, "RULES of a BOAT by a TEXT (anew): how many of the four letters are told.");
        IceBoats x = new IceBoats();
        Fleet.rules(x, 1, "H1L2W3E4");
        CHECK.text(x, 0, "W5");
        CHECK.due("anew", x.rules(1, 0), 1);
        int[] due = {NONE, NONE, 5, NONE};
        for (int k = 0; k < 4; k++) {
            CHECK.due("rule " + k, x.rule(1, k), due[k]);
            CHECK.due("of another BOAT", x.rule(2, k), NONE);
        }
        x.text(0, 0);
        CHECK.due("none", x.rules(1, 0), 0);
        CHECK.due("none", x.rule(1, 2), NONE);
        CHECK.text(x, 0, "H0L0");
        CHECK.due("0 is told, too", x.rules(1, 0), 2);
        CHECK.quote(34, "What a BOAT's RULES tell by a letter (0 H, 1 L, 2 W, 3 E); NONE.");
        for (int kind = 0; kind <= Fleet.HOME; kind++) {
            IceBoats y = Fleet.ofKind(kind, 9, 50);
            Fleet.rules(y, 0, "H11L12W13E14");
            for (int k = 0; k < 4; k++) {
                CHECK.due("of a " + kind + ", " + k, y.rule(0, k), 11 + k);
            }
        }
    }

    private static void goHome() {
        CHECK.quote(0, "H (72) n: if POWER is no more than n and the steps home (x and y from the least CELL of COULD to THE HOLE) times 2: go home");
        for (int n : new int[] {0, 1, 10, 100}) {
            for (int c : new int[] {0, 1, 8, 9, 27, 63}) {
                int most = n + 2 * (c % 8 + c / 8);
                int home = c == 0 ? 10 : c / 8 > 0 ? 11 : 12;
                IceBoats x = Fleet.only(c);
                Fleet.rules(x, 0, "H" + n);
                x.boat(0, 0, c, most);
                CHECK.due("H" + n + " in " + c + " with " + most, x.asks(0), home);
                x.boat(0, 0, c, most + 1);
                CHECK.due("H" + n + " in " + c + " with " + (most + 1), x.asks(0), 0);
            }
        }
        CHECK.quote(0, "10 and the WAY home (as for LEAVE; 10, if it is there), by H");
        int[] holes = {27, 19, 26, 28, 35, 18, 20, 34, 36, 63};
        int[] due = {10, 11, 12, 13, 14, 11, 11, 12, 13, 13};
        for (int i = 0; i < holes.length; i++) {
            IceBoats x = Fleet.only(27);
            Fleet.rules(x, 0, "H100");
            x.hole(holes[i]);
            CHECK.due("THE HOLE in " + holes[i], x.asks(0), due[i]);
        }
        // ROCK: the next WAY that leads nearer, or none
        IceBoats x = Fleet.only(27);
        Fleet.rules(x, 0, "H100");
        x.hole(9);
        x.rock(19, true);
        CHECK.due("not by WAY 1", x.asks(0), 12);
        x.rock(26, true);
        CHECK.due("none leads nearer", x.asks(0), 10);
    }

    private static void goHomeByTheLeastCell() {
        CHECK.quote(0, "(x and y from the least CELL of COULD to THE HOLE)");
        // it is in 26 and COULD be in 18, which is the least; 18 is 4 from THE HOLE in 0, 26 is 5
        IceBoats x = Fleet.only(18);
        x.cell(18, 4, 1, 0);
        x.seed(Fleet.seedFor("1"));
        x.boat(0, 0, 18, 9);
        x.tick();
        CHECK.due("COULD", Fleet.could(x, 0), Fleet.cells(18, 26));
        CHECK.due("it is in 26", Fleet.cell(x, 0), 26);
        Fleet.rules(x, 0, "H0");
        CHECK.due("9 is more than 8", x.asks(0), 0);
        Fleet.rules(x, 0, "H1");
        CHECK.due("9 is no more than 9", x.asks(0), 11);
        x.hole(26);
        CHECK.due("THE HOLE is where it is, but the least CELL is not there", x.asks(0), 0);
        Fleet.rules(x, 0, "H7");
        CHECK.due("to THE HOLE from the least CELL", x.asks(0), 14);
        x.hole(18);
        Fleet.rules(x, 0, "H9");
        CHECK.due("the least CELL is there", x.asks(0), 10);
        x.hole(34);
        Fleet.rules(x, 0, "H4");
        CHECK.due("18 is 2 from 34, 26 is 1: 9 is more than 8", x.asks(0), 0);
        Fleet.rules(x, 0, "H5");
        CHECK.due("9 is no more than 9", x.asks(0), 14);
    }

    private static void sayAndLook() {
        CHECK.quote(0, "W (87) n: say a FAR word each n TICKS (THE TICK modulo n is 0; n above 0); E (69) n: look each n TICKS.");
        for (int n = 1; n <= 4; n++) {
            IceBoats x = Fleet.only(9, 10, 11);
            Fleet.rules(x, 0, "W" + n);
            Fleet.rules(x, 1, "E" + n);
            for (int t = 0; t < 10; t++) {
                CHECK.due("W" + n + " at " + t, x.asks(0), t % n == 0 ? 2 : 0);
                CHECK.due("E" + n + " at " + t, x.asks(1), t % n == 0 ? 3 : 0);
                CHECK.due("without RULES", x.asks(2), 0);
                x.tick();
            }
            x.boat(0, 0, 9, 100);
            x.boat(1, 0, 9, 100);
            CHECK.due("by THE TICK, not by when it was let down: W", x.asks(0), 10 % n == 0 ? 2 : 0);
            CHECK.due("by THE TICK, not by when it was let down: E", x.asks(1), 10 % n == 0 ? 3 : 0);
        }
    }

    private static void theFirstThatFits() {
        CHECK.quote(0, "ASKED of an ABLE BOAT, the first that fits: 10 and the WAY home (as for LEAVE; 10, if it is there), by H; 2 say, by W; 3 look, by E; 0 nothing.");
        String[] rules = {"", "E1", "W1", "W1E1", "H100", "H100E1", "H100W1", "H100W1E1"};
        int[] due = {0, 3, 2, 2, 11, 11, 11, 11};
        for (int i = 0; i < rules.length; i++) {
            IceBoats x = Fleet.only(9);
            Fleet.rules(x, 0, rules[i]);
            CHECK.due("'" + rules[i] + "'", x.asks(0), due[i]);
            x.boat(0, 0, 9, 1000);
            CHECK.due("'" + rules[i] + "' with more POWER", x.asks(0), due[i % 4]);
            x.boat(0, 0, 0, 0);
            CHECK.due("'" + rules[i] + "' in THE HOLE", x.asks(0), i < 4 ? due[i] : 10);
        }
    }

    private static void askedOnly() {
        CHECK.quote(35, "ASKED of a BOAT.");
        // it has said, looked, and has no POWER: it is ASKED all the same
        IceBoats x = Fleet.only(9, 40);
        Fleet.rules(x, 0, "W1");
        Fleet.rules(x, 1, "E1");
        x.say(0, 1, 0);
        x.look(1);
        CHECK.due("it said one in this TICK", x.asks(0), 2);
        CHECK.due("it looked in this TICK", x.asks(1), 3);
        x.boat(0, 0, 9, 2);
        x.boat(1, 0, 40, 3);
        CHECK.due("not enough POWER to say", x.asks(0), 2);
        CHECK.due("not enough POWER to look", x.asks(1), 3);
        x.boat(1, 1, 40, 0);
        CHECK.due("a MAPPER without POWER", x.asks(1), 3);
        // what it is ASKED it does not do by itself
        IceBoats y = Fleet.only(9, 10);
        Fleet.rules(y, 0, "H100");
        Fleet.rules(y, 1, "W1E1");
        y.sea(3, 2);
        CHECK.due("home", y.asks(0), 11);
        CHECK.due("say", y.asks(1), 2);
        CHECK.due("asked() stays", y.asked(), 1);
        CHECK.due("words", y.count(2), 0);
        y.tick();
        CHECK.due("it stays", Fleet.cell(y, 0), 9);
        CHECK.due("POWER", Fleet.power(y, 0), 100);
        CHECK.due("POWER", Fleet.power(y, 1), 100);
        y.go(0, 3);
        CHECK.due("home", y.asks(0), 11);
        y.tick();
        CHECK.due("it goes as it was told", Fleet.cell(y, 0), 10);
    }

    private static void askedOfEachKind() {
        CHECK.quote(35, "BAD; STATE: not ABLE.");
        for (int kind = 0; kind <= Fleet.HOME; kind++) {
            IceBoats x = Fleet.ofKind(kind, 9, 50);
            x.hole(0);
            Fleet.rules(x, 0, "H46");
            if (kind <= Fleet.ANCHOR) {
                CHECK.due("a " + kind + ": 50 is no more than 46 and 2 times 2", x.asks(0), 11);
                Fleet.rules(x, 0, "H45");
                CHECK.due("a " + kind + ": 50 is more than 45 and 2 times 2", x.asks(0), 0);
            }
            String[] rules = {"", "H50", "W1", "E1"};
            int[] due = {0, 11, 2, 3};
            for (int i = 0; i < 4; i++) {
                Fleet.rules(x, 0, rules[i]);
                if (kind <= Fleet.ANCHOR) {
                    CHECK.due("a " + kind + " by '" + rules[i] + "'", x.asks(0), due[i]);
                } else {
                    CHECK.state(x, "a " + kind + " by '" + rules[i] + "'", () -> x.asks(0));
                }
            }
        }
    }

    private static void lost() {
        CHECK.quote(0, "L (76) n: LOST behind n TICKS");
        for (int n : new int[] {0, 1, 2, 7}) {
            IceBoats x = Fleet.only(9, 10);
            Fleet.rules(x, 0, "L" + n);
            for (int t = 1; t <= n; t++) {
                x.tick();
                CHECK.due("L" + n + " at " + t, Fleet.told(x, 0, 0), 0);
            }
            x.tick();
            CHECK.due("L" + n + " at " + (n + 1), Fleet.told(x, 0, 0), Fleet.LOST);
            CHECK.due("without L", Fleet.told(x, 1, 0), 0);
        }
        // by what it heard last, or by when it was let down, whichever was later
        IceBoats x = Fleet.only(9, 10);
        Fleet.rules(x, 0, "L2");
        CHECK.ticks(x, 2);
        x.boat(0, 0, 9, 100);
        CHECK.ticks(x, 2);
        CHECK.due("let down at 2, ABLE at 4", Fleet.told(x, 0, 0), 0);
        x.say(1, 0, 0);
        CHECK.due("heard at 5", x.tick(), 1);
        CHECK.ticks(x, 2);
        CHECK.due("ABLE at 7", Fleet.told(x, 0, 0), 0);
        x.say(0, 0, 0);
        x.tick();
        CHECK.due("what it says is not heard by it: LOST at 8", Fleet.told(x, 0, 0), Fleet.LOST);
        CHECK.due("since when", x.mark(0, Fleet.LOST), 8);
        CHECK.due("heard last", Fleet.told(x, 0, 5), 5);
    }
}
