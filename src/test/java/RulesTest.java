/** Promises 32 to 35: RULES. */
final class RulesTest {
    private static final Check CHECK = new Check("rules");
    private static final int NONE = IceBoats.NONE;

    public static void main(String[] args) {
        wrongNumbers();
        faults();
        readRules();
        asksHome();
        asksByTick();
        CHECK.end();
    }

    private static void wrongNumbers() {
        IceBoats x = new IceBoats();
        CHECK.refused(x, "fault(4)", () -> x.fault(4), IceBoats.BAD);
        CHECK.refused(x, "fault(-1)", () -> x.fault(-1), IceBoats.BAD);
        CHECK.found(x, "fault of a missing one", () -> x.fault(3), Check.NOTHING);
        CHECK.refused(x, "rules(6, 0)", () -> x.rules(6, 0), IceBoats.BAD);
        CHECK.refused(x, "rules(-1, 0)", () -> x.rules(-1, 0), IceBoats.BAD);
        CHECK.refused(x, "rules(0, 4)", () -> x.rules(0, 4), IceBoats.BAD);
        CHECK.refused(x, "rules(0, -1)", () -> x.rules(0, -1), IceBoats.BAD);
        CHECK.found(x, "rules of a missing one", () -> x.rules(0, 3), Check.NOTHING);
        CHECK.refused(x, "rule(6, 0)", () -> x.rule(6, 0), IceBoats.BAD);
        CHECK.refused(x, "rule(-1, 0)", () -> x.rule(-1, 0), IceBoats.BAD);
        CHECK.refused(x, "rule(0, 4)", () -> x.rule(0, 4), IceBoats.BAD);
        CHECK.refused(x, "rule(0, -1)", () -> x.rule(0, -1), IceBoats.BAD);
        CHECK.refused(x, "asks(6)", () -> x.asks(6), IceBoats.BAD);
        CHECK.refused(x, "asks(-1)", () -> x.asks(-1), IceBoats.BAD);
    }

    private static void faults() {
        Object[][] texts = {
            {"", NONE}, {"   ", NONE}, {"H1", NONE}, {"  H1", NONE}, {"H1  ", NONE}, {"H1L2W3E4", NONE},
            {"H0", NONE}, {"L0", NONE}, {"L000", NONE}, {"W001", NONE}, {"E999", NONE}, {"W10", NONE}, {"H12 L123", NONE},
            {"W0", 2}, {"W00", 3}, {"W000", 4}, {"E0", 2}, {"W0 H1", 2}, {"W0X", 2}, {"W0000", 4}, {" E0", 3},
            {"H", 1}, {"  H", 3}, {"H1 L", 4}, {"H 1", 1}, {"HL", 1}, {"H1234", 4}, {"X", 0}, {"h1", 0}, {" 5", 1},
            {"H1,L2", 2}, {"H-1", 1}, {"H1X", 2}, {"H1 X W0", 3}, {"L1L", 3}, {"W5 E", 4}, {"H1/", 2}, {"H:", 1}, {"H/", 1},
            {"1", 0}, {"H1\tL2", 2}, {"H1H2H3H4H5H6H7H8H9H1H2H3H4H5H6H7H8H9H10", NONE}};
        for (Object[] one : texts) {
            String signs = (String) one[0];
            IceBoats x = new IceBoats();
            CHECK.text(x, 1, signs);
            int due = (Integer) one[1];
            long before = x.digest();
            CHECK.due("fault of '" + signs + "'", x.fault(1), due);
            CHECK.due("nothing changed", x.digest(), before);
            if (due != NONE) {
                CHECK.refused(x, "rules by '" + signs + "'", () -> x.rules(0, 1), IceBoats.STATE);
            }
        }
        IceBoats x = new IceBoats();
        CHECK.text(x, 0, "H123456789");
        x.text(0, 2);
        x.put(0, 0, 72);
        x.put(0, 1, 57);
        CHECK.due("what was behind the end", x.fault(0), NONE);
        CHECK.due("H", x.rules(0, 0), 1);
        CHECK.due("is not there any more", x.rule(0, 0), 9);
        x.text(0, 1);
        x.put(0, 0, 72);
        CHECK.due("nor is this", x.fault(0), 1);
        x.text(0, 2);
        x.put(0, 0, 72 + 256);
        x.put(0, 1, 48 - 256);
        CHECK.due("cut to bytes", x.fault(0), NONE);
        x.put(0, 1, -80);
        CHECK.due("a byte below 0", x.fault(0), 1);
    }

    private static void readRules() {
        IceBoats x = new IceBoats();
        for (int what = 0; what < 4; what++) {
            CHECK.due("at first, rule(5, " + what + ")", x.rule(5, what), NONE);
        }
        CHECK.text(x, 0, " E12 W7L305H0");
        CHECK.due("all four", x.rules(5, 0), 4);
        int[] due = {0, 305, 7, 12};
        for (int what = 0; what < 4; what++) {
            CHECK.due("rule(5, " + what + ")", x.rule(5, what), due[what]);
            CHECK.due("not of another one", x.rule(4, what), NONE);
        }
        CHECK.text(x, 0, "L7L2 W3");
        CHECK.due("L and W", x.rules(5, 0), 2);
        int[] anew = {NONE, 2, 3, NONE};
        for (int what = 0; what < 4; what++) {
            CHECK.due("anew, rule(5, " + what + ")", x.rule(5, what), anew[what]);
        }
        CHECK.text(x, 0, "H5 E0");
        CHECK.refused(x, "a FAULT", () -> x.rules(5, 0), IceBoats.STATE);
        CHECK.due("as it was", x.rule(5, 1), 2);
        x.text(0, 0);
        CHECK.due("none told", x.rules(5, 0), 0);
        CHECK.due("none is left", x.rule(5, 1), NONE);
        x.boat(5, 0, 0, 0);
        x.tick();
        CHECK.text(x, 0, "H5");
        CHECK.due("of a DEAD one", x.rules(5, 0), 1);
        CHECK.refused(x, "asks of a DEAD one", () -> x.asks(5), IceBoats.STATE);
    }

    private static void asksHome() {
        IceBoats x = new IceBoats();
        CHECK.due("no RULES", x.asks(0), 0);
        CHECK.text(x, 0, "H3 W1");
        x.rules(0, 0);
        // 8 steps home, so 3 and 16
        x.hole(9);
        int[][] runs = {{45, 19, 11}, {45, 20, 2}, {45, 0, 11}, {9, 3, 10}, {9, 4, 2}, {8, 5, 13}, {8, 6, 2}, {1, 5, 14}, {10, 5, 12}, {17, 5, 11}};
        for (int[] run : runs) {
            x.boat(0, 0, run[0], run[1]);
            CHECK.due("in " + run[0] + " with " + run[1], x.asks(0), run[2]);
        }
        x.rock(37, true);
        x.boat(0, 0, 45, 19);
        CHECK.due("the first that leads on", x.asks(0), 12);
        x.rock(16, true);
        x.boat(0, 0, 24, 1);
        CHECK.due("not by WAY 1", x.asks(0), 13);
        x.rock(25, true);
        CHECK.due("none comes nearer", x.asks(0), 10);
        leastOfCould();
    }

    private static void leastOfCould() {
        IceBoats x = new IceBoats();
        CHECK.text(x, 0, "H0");
        x.rules(0, 0);
        x.cell(1, 4, 1, 0);
        x.boat(0, 0, 1, 3);
        int before = x.asks(0);
        CHECK.due("3 is more than 2", before, 0);
        x.tick();
        x.cell(1, 0, 1, 0);
        CHECK.due("COULD", x.could(0), 2);
        CHECK.due("from the least CELL, be it there or not", x.asks(0), 0);
        x.hole(9);
        x.could(0);
        CHECK.due("set()", x.set(), 1L << 1 | 1L << 9);
        x.hole(2);
        x.boat(0, 0, 1, 2);
        CHECK.due("2 is no more than 2", x.asks(0), 13);
    }

    private static void asksByTick() {
        IceBoats x = new IceBoats();
        CHECK.text(x, 0, "W2E3");
        x.rules(0, 0);
        CHECK.text(x, 0, "E1");
        x.rules(1, 0);
        int[] due = {2, 0, 2, 3, 2, 0, 2, 0, 2, 3, 2, 0, 2};
        for (int t = 0; t < due.length; t++) {
            CHECK.due("TICK " + t, x.asks(0), due[t]);
            CHECK.due("each TICK", x.asks(1), 3);
            x.tick();
        }
        x.home(0);
        CHECK.refused(x, "asks of a HOME one", () -> x.asks(0), IceBoats.STATE);
    }
}
