/** The boundary cases of RULES: promises 32 to 35, and part 4 of the terms. */
final class EdgeRulesTest {
    private static final Check CHECK = new Check("edges of rules");
    private static final int LEAST = Integer.MIN_VALUE, GREATEST = Integer.MAX_VALUE, NONE = IceBoats.NONE;
    private static final int[] NO_BOATS = {-1, 6, NONE, LEAST, GREATEST};
    private static final int[] NO_TEXTS = {-1, 4, NONE, LEAST, GREATEST};

    public static void main(String[] args) {
        withoutItems();
        blanks();
        digits();
        faults();
        faultsAtTheEnd();
        noughts();
        otherSigns();
        faultNumbers();
        rulesRefused();
        rulesAnew();
        ruleNumbers();
        homeByPower();
        homeByWays();
        eachTicks();
        firstThatFits();
        asksRefused();
        CHECK.end();
    }

    private static String blanks(int n) {
        return " ".repeat(n);
    }

    // The FAULT of a TEXT, by fault() and by rules()
    private static void fault(String signs, int due) {
        IceBoats x = new IceBoats();
        CHECK.text(x, 2, signs);
        CHECK.due("fault of '" + signs + "'", x.fault(2), due);
        if (due == NONE) {
            CHECK.due("rules by '" + signs + "' are read", x.rules(0, 2) >= 0 ? 1 : 0, 1);
        } else {
            CHECK.state(x, "rules by '" + signs + "'", () -> x.rules(0, 2));
        }
    }

    private static void tells(String signs, int h, int l, int w, int e) {
        IceBoats x = new IceBoats();
        CHECK.text(x, 0, signs);
        int[] due = {h, l, w, e};
        int letters = 0;
        for (int n : due) {
            letters += n == NONE ? 0 : 1;
        }
        CHECK.due("fault of '" + signs + "'", x.fault(0), NONE);
        CHECK.due("rules by '" + signs + "'", x.rules(5, 0), letters);
        for (int what = 0; what < 4; what++) {
            CHECK.due("rule(5, " + what + ") by '" + signs + "'", x.rule(5, what), due[what]);
        }
    }

    private static void withoutItems() {
        CHECK.sentence(0, "RULES of a BOAT are a TEXT's items: a TEXT without any");
        tells("", NONE, NONE, NONE, NONE);
        tells(" ", NONE, NONE, NONE, NONE);
        tells(blanks(40), NONE, NONE, NONE, NONE);
    }

    private static void blanks() {
        CHECK.sentence(0, "with blanks (32) ahead, between, behind as many as wanted");
        tells("H1", 1, NONE, NONE, NONE);
        tells(blanks(38) + "H1", 1, NONE, NONE, NONE);
        tells("H1" + blanks(38), 1, NONE, NONE, NONE);
        tells("H1" + blanks(36) + "L2", 1, 2, NONE, NONE);
        tells("H1L2W3E4", 1, 2, 3, 4);
        tells("  E4 W3   L2H1 ", 1, 2, 3, 4);
        CHECK.sentence(0, "a blank within an item");
        fault("H 1", 1);
        fault("H1 2", 3);
        fault("L" + blanks(39), 1);
    }

    private static void digits() {
        CHECK.sentence(0, "n: one to three digits");
        tells("H0L0", 0, 0, NONE, NONE);
        tells("H9L9W9E9", 9, 9, 9, 9);
        tells("H10L99W10E99", 10, 99, 10, 99);
        tells("H100L999W100E999", 100, 999, 100, 999);
        tells("H000L001W010E001", 0, 1, 10, 1);
        fault("H1000", 4);
        fault("L0001", 4);
        fault("W1234", 4);
        fault("E9999 ", 4);
        fault("H", 1);
        CHECK.sentence(0, "Of alike items the last counts");
        tells("H1H2", 2, NONE, NONE, NONE);
        tells("H2H1 H0", 0, NONE, NONE, NONE);
        tells("W9W1E1E9", NONE, NONE, 1, 9);
        tells("H1H2H3H4H5H6H7H8H9H1H2H3H4H5H6H7H8H9H1L7", 1, 7, NONE, NONE);
    }

    private static void faults() {
        CHECK.sentence(32, "A FAULT is the first place at which it can't go on so");
        fault("X", 0);
        fault("1", 0);
        fault("  X", 2);
        fault("HX", 1);
        fault("HH1", 1);
        fault("H1X", 2);
        fault("H12X", 3);
        fault("H123X", 4);
        fault("H1X W0", 2);
        fault("H1 W0 X", 5);
        fault("h1", 0);
        fault("H1l2", 2);
        fault("H+1", 1);
        fault("H-1", 1);
        fault("H1;", 2);
        fault(blanks(39) + "X", 39);
    }

    private static void faultsAtTheEnd() {
        CHECK.sentence(0, "(the TEXT's size, if its end comes too early)");
        for (String letter : new String[] {"H", "L", "W", "E"}) {
            fault(letter, 1);
            fault("H1" + letter, 3);
            fault(blanks(39) + letter, 40);
        }
        fault("H1 L2 W3 E", 10);
        CHECK.sentence(0, "the TEXT's size: what stood behind it as it was longer is not there");
        IceBoats x = new IceBoats();
        CHECK.text(x, 0, "H123");
        x.text(0, 1);
        x.put(0, 0, 'H');
        CHECK.due("fault of 'H'", x.fault(0), 1);
        x.text(0, 4);
        x.put(0, 0, 'H');
        x.put(0, 1, '7');
        CHECK.due("fault of 'H7  '", x.fault(0), NONE);
        CHECK.due("rules", x.rules(0, 0), 1);
        CHECK.due("H", x.rule(0, 0), 7);
    }

    private static void noughts() {
        CHECK.sentence(0, "n above 0 (W 0, E 0: the place behind)");
        for (String letter : new String[] {"W", "E"}) {
            fault(letter + "0", 2);
            fault(letter + "00", 3);
            fault(letter + "000", 4);
            fault(letter + "0000", 4);
            fault(letter + "0 ", 2);
            fault(letter + "0X", 2);
            fault("H1 " + letter + "0 X", 5);
            fault(blanks(38) + letter + "0", 40);
            fault(letter + "0" + letter + "1", 2);
            fault(letter + "1" + letter + "0", 4);
            fault(letter + "01", NONE);
            fault(letter + "001", NONE);
            fault(letter + "100", NONE);
        }
        CHECK.sentence(0, "H 0, L 0 are none");
        fault("H0", NONE);
        fault("L000", NONE);
    }

    private static void otherSigns() {
        CHECK.sentence(0, "H (72), L (76), W (87), E (69), blanks (32), digits: each other byte is a FAULT");
        for (int v = -128; v < 128; v++) {
            boolean letter = v == 72 || v == 76 || v == 87 || v == 69;
            boolean digit = v >= 48 && v <= 57;
            IceBoats x = new IceBoats();
            x.text(0, 1);
            x.put(0, 0, v);
            CHECK.due("fault of byte " + v, x.fault(0), v == 32 ? NONE : letter ? 1 : 0);
            x.text(0, 2);
            x.put(0, 0, 72);
            x.put(0, 1, v);
            CHECK.due("fault of H and byte " + v, x.fault(0), digit ? NONE : 1);
            x.text(0, 3);
            x.put(0, 0, 72);
            x.put(0, 1, 49);
            x.put(0, 2, v);
            CHECK.due("fault of H1 and byte " + v, x.fault(0), digit || v == 32 ? NONE : letter ? 3 : 2);
        }
        CHECK.sentence(8, "cut to a byte: as a sign of RULES, too");
        IceBoats x = new IceBoats();
        x.text(0, 3);
        x.put(0, 0, 72 + 256);
        x.put(0, 1, 49 - 256);
        x.put(0, 2, 32 + (1 << 30));
        CHECK.due("H1 and a blank", x.fault(0), NONE);
    }

    private static void faultNumbers() {
        IceBoats x = new IceBoats();
        CHECK.sentence(32, "BAD; NOTHING");
        for (int t : NO_TEXTS) {
            CHECK.bad(x, "fault(" + t + ")", () -> x.fault(t));
        }
        for (int t = 0; t < 4; t++) {
            int of = t;
            CHECK.found(x, "fault(" + t + ")", () -> x.fault(of), Check.NOTHING);
            x.text(t, 0);
            CHECK.due("a TEXT of none", x.fault(t), NONE);
        }
    }

    private static void rulesRefused() {
        IceBoats x = new IceBoats();
        CHECK.text(x, 0, "H1L2W3E4");
        CHECK.text(x, 1, "X");
        x.rules(0, 0);
        CHECK.sentence(33, "BAD");
        for (int b : NO_BOATS) {
            CHECK.bad(x, "rules(" + b + ", 0)", () -> x.rules(b, 0));
            CHECK.bad(x, "rules(" + b + ", 1): ahead of STATE", () -> x.rules(b, 1));
            CHECK.bad(x, "rules(" + b + ", 3): ahead of NOTHING", () -> x.rules(b, 3));
        }
        for (int t : NO_TEXTS) {
            CHECK.bad(x, "rules(0, " + t + ")", () -> x.rules(0, t));
        }
        CHECK.sentence(33, "NOTHING; STATE: a FAULT. (STATE behind NOTHING.)");
        CHECK.found(x, "missing", () -> x.rules(0, 3), Check.NOTHING);
        CHECK.state(x, "a FAULT", () -> x.rules(0, 1));
        CHECK.sentence(33, "a FAULT behind items that are well: none of these counts");
        CHECK.text(x, 1, "H9L9W9E9W0");
        CHECK.state(x, "W0 at last", () -> x.rules(0, 1));
        for (int what = 0; what < 4; what++) {
            CHECK.due("rule(0, " + what + ")", x.rule(0, what), what + 1);
        }
    }

    private static void rulesAnew() {
        IceBoats x = new IceBoats();
        CHECK.sentence(33, "RULES of a BOAT by a TEXT (anew): how many of the four letters are told");
        String[] texts = {"H1L2W3E4", "H1L2W3", "H1H2H3L1", "E5", "", "   ", "W1"};
        int[] due = {4, 3, 2, 1, 0, 0, 1};
        for (int i = 0; i < texts.length; i++) {
            CHECK.text(x, 3, texts[i]);
            CHECK.due("rules by '" + texts[i] + "'", x.rules(5, 3), due[i]);
            int told = 0;
            for (int what = 0; what < 4; what++) {
                told += x.rule(5, what) == NONE ? 0 : 1;
            }
            CHECK.due("those of the TEXT ahead are gone", told, due[i]);
        }
        CHECK.sentence(33, "of a BOAT that is not ABLE, too");
        x.home(0);
        CHECK.due("HOME", x.rules(0, 3), 1);
        CHECK.sentence(33, "what becomes of the TEXT behind it is not looked at");
        CHECK.text(x, 3, "X");
        CHECK.due("W", x.rule(5, 2), 1);
    }

    private static void ruleNumbers() {
        IceBoats x = new IceBoats();
        CHECK.sentence(34, "by a letter (0 H, 1 L, 2 W, 3 E); NONE");
        for (int b = 0; b < 6; b++) {
            for (int what = 0; what < 4; what++) {
                CHECK.due("at first", x.rule(b, what), NONE);
            }
        }
        CHECK.sentence(34, "BAD");
        for (int b : NO_BOATS) {
            CHECK.bad(x, "rule(" + b + ", 0)", () -> x.rule(b, 0));
        }
        for (int what : new int[] {-1, 4, NONE, LEAST, GREATEST}) {
            CHECK.bad(x, "rule(0, " + what + ")", () -> x.rule(0, what));
        }
    }

    private static void asks(String signs, int cell, int hole, int power, int due) {
        IceBoats x = new IceBoats();
        CHECK.text(x, 0, signs);
        x.rules(0, 0);
        x.tick();
        x.boat(0, 0, cell, power);
        x.hole(hole);
        CHECK.due("'" + signs + "' in " + cell + ", THE HOLE " + hole + ", POWER " + power, x.asks(0), due);
    }

    private static void homeByPower() {
        CHECK.sentence(0, "H n: if POWER is no more than n and the steps home times 2: go home");
        asks("H0", 0, 0, 0, 10);
        asks("H0", 0, 0, 1, 0);
        asks("H5", 0, 0, 5, 10);
        asks("H5", 0, 0, 6, 0);
        asks("H0", 0, 63, 28, 13);
        asks("H0", 0, 63, 29, 0);
        asks("H3", 9, 27, 11, 13);
        asks("H3", 9, 27, 12, 0);
        asks("H999", 0, 0, 999, 10);
        asks("H999", 0, 0, 1000, 0);
        asks("H999", 0, 1, 1000, 13);
        asks("L9", 0, 63, 0, 0);
    }

    private static void homeByWays() {
        CHECK.sentence(0, "10 and the WAY home (as for LEAVE; 10, if it is there), by H");
        int[][] runs = {{27, 27, 10}, {27, 19, 11}, {27, 26, 12}, {27, 28, 13}, {27, 35, 14}, {27, 0, 11}, {27, 63, 13}, {27, 56, 12}, {27, 7, 11},
            {0, 63, 13}, {63, 0, 11}, {7, 8, 12}, {8, 7, 11}};
        for (int[] run : runs) {
            asks("H999", run[0], run[1], 0, run[2]);
        }
        CHECK.sentence(0, "as for LEAVE: the first WAY that comes nearer, if one does");
        IceBoats x = new IceBoats();
        CHECK.text(x, 0, "H999");
        x.rules(0, 0);
        x.boat(0, 0, 27, 9);
        x.rock(19, true);
        CHECK.due("WAY 1 is ROCK", x.asks(0), 12);
        x.rock(26, true);
        CHECK.due("WAY 2, too: none", x.asks(0), 10);
        CHECK.sentence(0, "x and y from the least CELL of COULD to THE HOLE");
        IceBoats y = new IceBoats();
        CHECK.text(y, 0, "H0");
        y.rules(0, 0);
        y.cell(9, 3, 1, 0);
        y.boat(0, 0, 9, 4);
        y.hole(11);
        y.tick();
        CHECK.due("COULD", y.could(0), 2);
        CHECK.due("2 steps from 9, be it in 10", y.asks(0), 13);
        y.boat(1, 0, 10, 4);
        y.rules(1, 0);
        CHECK.due("1 step from 10", y.asks(1), 0);
    }

    private static void eachTicks() {
        CHECK.sentence(0, "W n: each n TICKS (THE TICK modulo n is 0; n above 0)");
        IceBoats x = new IceBoats();
        int[] each = {1, 2, 3, 7, 999};
        for (int b = 0; b < each.length; b++) {
            CHECK.text(x, 0, "W" + each[b]);
            x.rules(b, 0);
        }
        IceBoats y = new IceBoats();
        for (int b = 0; b < each.length; b++) {
            CHECK.text(y, 0, "E" + each[b]);
            y.rules(b, 0);
        }
        for (int t = 0; t <= 22; t++) {
            for (int b = 0; b < each.length; b++) {
                CHECK.due("W" + each[b] + " at TICK " + t, x.asks(b), t % each[b] == 0 ? 2 : 0);
                CHECK.due("E" + each[b] + " at TICK " + t, y.asks(b), t % each[b] == 0 ? 3 : 0);
            }
            CHECK.due("without RULES", x.asks(5), 0);
            x.tick();
            y.tick();
        }
    }

    private static void firstThatFits() {
        CHECK.sentence(0, "ASKED of an ABLE BOAT, the first that fits: .. by H; 2 say, by W; 3 look, by E; 0 nothing");
        IceBoats x = new IceBoats();
        CHECK.text(x, 0, "E1W1H9");
        x.rules(0, 0);
        x.boat(0, 0, 0, 9);
        CHECK.due("all fit", x.asks(0), 10);
        x.boat(0, 0, 0, 10);
        CHECK.due("W and E", x.asks(0), 2);
        CHECK.text(x, 0, "E1W2");
        x.rules(0, 0);
        x.tick();
        CHECK.due("just E", x.asks(0), 3);
        CHECK.text(x, 0, "E2W2L9H0");
        x.rules(0, 0);
        CHECK.due("none", x.asks(0), 0);
    }

    private static void asksRefused() {
        IceBoats x = new IceBoats();
        CHECK.text(x, 0, "L0H9W1E1");
        x.rules(0, 0);
        x.rules(1, 0);
        x.rules(2, 0);
        x.boat(1, 0, 0, 0);
        x.home(2);
        x.tick();
        CHECK.sentence(35, "STATE: not ABLE");
        for (int b = 0; b < 3; b++) {
            int of = b;
            CHECK.state(x, "LOST, DEAD, HOME: " + b, () -> x.asks(of));
        }
        CHECK.sentence(35, "BAD");
        for (int b : NO_BOATS) {
            CHECK.bad(x, "asks(" + b + ")", () -> x.asks(b));
        }
        for (int kind = 0; kind <= 3; kind++) {
            x.boat(0, kind, 0, 100);
            CHECK.due("ABLE again", x.asks(0), 2);
        }
    }
}
