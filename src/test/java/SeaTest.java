/** Promises 9 to 14: the sea, THE HOLE, the CHART and LOTS. */
final class SeaTest {
    private static final Check CHECK = new Check("sea");

    public static void main(String[] args) {
        wrongNumbers();
        rocks();
        cells();
        holes();
        lots();
        CHECK.end();
    }

    private static void wrongNumbers() {
        IceBoats x = new IceBoats();
        for (int c : new int[] {-1, 64, Integer.MIN_VALUE, Integer.MAX_VALUE}) {
            CHECK.refused(x, "rock(" + c + ", true)", () -> x.rock(c, true), IceBoats.BAD);
            CHECK.refused(x, "rock(" + c + ", false)", () -> x.rock(c, false), IceBoats.BAD);
            CHECK.refused(x, "cell(" + c + ", ..)", () -> x.cell(c, 0, 1, 0), IceBoats.BAD);
            CHECK.refused(x, "sea(" + c + ", 0)", () -> x.sea(c, 0), IceBoats.BAD);
            CHECK.refused(x, "chart(" + c + ", 0)", () -> x.chart(c, 0), IceBoats.BAD);
            CHECK.refused(x, "hole(" + c + ")", () -> x.hole(c), IceBoats.BAD);
        }
        CHECK.refused(x, "CURRENT 5", () -> x.cell(0, 5, 1, 0), IceBoats.BAD);
        CHECK.refused(x, "CURRENT -1", () -> x.cell(0, -1, 1, 0), IceBoats.BAD);
        CHECK.refused(x, "WARMTH 0", () -> x.cell(0, 0, 0, 0), IceBoats.BAD);
        CHECK.refused(x, "WARMTH 5", () -> x.cell(0, 0, 5, 0), IceBoats.BAD);
        CHECK.refused(x, "ICE 10", () -> x.cell(0, 0, 1, 10), IceBoats.BAD);
        CHECK.refused(x, "ICE -9", () -> x.cell(0, 0, 1, -9), IceBoats.BAD);
        CHECK.refused(x, "sea(0, 5)", () -> x.sea(0, 5), IceBoats.BAD);
        CHECK.refused(x, "sea(0, -1)", () -> x.sea(0, -1), IceBoats.BAD);
        CHECK.refused(x, "chart(0, 10)", () -> x.chart(0, 10), IceBoats.BAD);
        CHECK.refused(x, "chart(0, -1)", () -> x.chart(0, -1), IceBoats.BAD);
    }

    private static void rocks() {
        IceBoats x = new IceBoats();
        CHECK.due("rock(5, false), none", x.rock(5, false), 0);
        CHECK.due("rock(5, true)", x.rock(5, true), 0);
        CHECK.asked(x, "sea(5, 0)", x.sea(5, 0), 1);
        CHECK.due("rock(5, true) again", x.rock(5, true), 1);
        CHECK.due("rock(5, false)", x.rock(5, false), 1);
        CHECK.asked(x, "sea(5, 0)", x.sea(5, 0), 0);
        CHECK.due("rock(63, true)", x.rock(63, true), 0);
        CHECK.due("hole(62)", x.hole(62), 0);
        CHECK.refused(x, "rock in THE HOLE", () -> x.rock(62, true), IceBoats.STATE);
        CHECK.due("rock(62, false)", x.rock(62, false), 0);
        CHECK.refused(x, "rock where BOATS are", () -> x.rock(0, true), IceBoats.STATE);
        for (int b = 0; b < 5; b++) {
            x.boat(b, 0, 20, 9);
        }
        CHECK.refused(x, "rock where one BOAT is", () -> x.rock(0, true), IceBoats.STATE);
        for (int b = 0; b < 6; b++) {
            x.boat(b, 0, 40 + b, 9);
        }
        for (int b = 0; b < 6; b++) {
            int c = 40 + b;
            CHECK.refused(x, "rock where just BOAT " + b + " is", () -> x.rock(c, true), IceBoats.STATE);
        }
        x.boat(5, 0, 62, 9);
        CHECK.due("rock(0, true), all gone", x.rock(0, true), 0);
        CHECK.due("home(5)", x.home(5), 1);
        x.hole(1);
        CHECK.refused(x, "rock where a HOME one is", () -> x.rock(62, true), IceBoats.STATE);
        x.boat(5, 0, 30, 0);
        x.tick();
        CHECK.asked(x, "DEAD", x.told(5, 0), 5);
        CHECK.refused(x, "rock where a DEAD one is", () -> x.rock(30, true), IceBoats.STATE);
        CHECK.due("where none is any more", x.rock(62, true), 0);
    }

    private static void cells() {
        IceBoats x = new IceBoats();
        int[] first = {0, 0, 1, 0, IceBoats.NONE};
        for (int c = 0; c < 64; c += 21) {
            for (int what = 0; what < 5; what++) {
                CHECK.asked(x, "at first, sea(" + c + ", " + what + ")", x.sea(c, what), first[what]);
            }
        }
        CHECK.due("cell(63, 4, 4, 9)", x.cell(63, 4, 4, 9), 1);
        CHECK.due("chart(63, 9)", x.chart(63, 9), 1);
        int[] then = {0, 4, 4, 9, 9};
        for (int what = 0; what < 5; what++) {
            CHECK.asked(x, "sea(63, " + what + ")", x.sea(63, what), then[what]);
            CHECK.asked(x, "sea(62, " + what + ")", x.sea(62, what), first[what]);
        }
        CHECK.due("chart(63, NONE)", x.chart(63, IceBoats.NONE), 1);
        CHECK.asked(x, "sea(63, 4)", x.sea(63, 4), IceBoats.NONE);
        CHECK.due("chart(0, 0)", x.chart(0, 0), 1);
        CHECK.asked(x, "sea(0, 4)", x.sea(0, 4), 0);
        x.rock(63, true);
        CHECK.due("cell of ROCK", x.cell(63, 1, 2, 3), 1);
        CHECK.asked(x, "sea(63, 1)", x.sea(63, 1), 1);
    }

    private static void holes() {
        IceBoats x = new IceBoats();
        CHECK.due("hole(9), 0 at first", x.hole(9), 0);
        CHECK.due("hole(63)", x.hole(63), 9);
        x.rock(9, true);
        CHECK.refused(x, "hole in ROCK", () -> x.hole(9), IceBoats.STATE);
        CHECK.due("hole(63) as it is", x.hole(63), 63);
    }

    // LOTS as the document tells them, drawn here by hand
    private static void lots() {
        IceBoats x = new IceBoats();
        int l = 1;
        for (int y = 0; y < 8; y++) {
            for (int i = 0; i < 8; i++) {
                x.cell(8 * y + i, i < 7 ? 3 : 0, 1, 0);
            }
        }
        x.boat(1, 3, 0, 100);
        int[] at = new int[6];
        for (int t = 0; t < 24; t++) {
            if (t % 6 == 0) {
                l = t == 6 ? -5 : t == 12 ? Integer.MIN_VALUE : l;
                if (t == 6 || t == 12) {
                    CHECK.due("seed(" + l + ")", x.seed(l), 1);
                }
                for (int b = 0; b < 6; b++) {
                    x.boat(b, b == 1 ? 3 : 0, 0, 100);
                    at[b] = 0;
                }
            }
            x.tick();
            for (int b = 0; b < 6; b++) {
                if (b == 1) {
                    continue;
                }
                l = l * 1103515245 + 12345;
                boolean carries = ((l >> 16) & 0x7FFF) % 4 != 0;
                at[b] = carries && at[b] < 7 ? at[b] + 1 : at[b];
                CHECK.asked(x, "carried by LOT, TICK " + t + ", BOAT " + b, x.told(b, 1), at[b]);
            }
        }
    }
}
