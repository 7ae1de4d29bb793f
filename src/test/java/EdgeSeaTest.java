import java.math.BigInteger;

/** The boundary cases of the sea: promises 9 to 14, and part 1 of the terms. */
final class EdgeSeaTest {
    private static final Check CHECK = new Check("edges of the sea");
    private static final int LEAST = Integer.MIN_VALUE, GREATEST = Integer.MAX_VALUE, NONE = IceBoats.NONE;
    private static final int[] NO_CELLS = {-1, 64, NONE, LEAST, GREATEST};

    public static void main(String[] args) {
        atFirst();
        waysAtTheEdge();
        currentsAtTheEdge();
        waysToRock();
        lots();
        becomingRock();
        cellNumbers();
        whatOfTheSea();
        charts();
        holes();
        seeds();
        CHECK.end();
    }

    private static void atFirst() {
        IceBoats x = new IceBoats();
        CHECK.sentence(0, "A CELL is ROCK or not (at first), has a CURRENT (0 at first), a WARMTH (1 at first), ICE above it (0 at first)");
        int[] due = {0, 0, 1, 0, NONE};
        for (int c = 0; c < 64; c++) {
            for (int what = 0; what < 5; what++) {
                CHECK.asked(x, "sea(" + c + ", " + what + ")", x.sea(c, what), due[what]);
            }
        }
        CHECK.sentence(0, "THE HOLE is a CELL (0 at first)");
        CHECK.due("hole(0)", x.hole(0), 0);
    }

    // x and y told apart here, so that a WAY around from one side of the sea to the other is seen
    private static int beside(int c, int way) {
        int x = c % 8;
        int y = c / 8;
        switch (way) {
            case 1: return y == 0 ? c : c - 8;
            case 2: return x == 0 ? c : c - 1;
            case 3: return x == 7 ? c : c + 1;
            case 4: return y == 7 ? c : c + 8;
            default: return c;
        }
    }

    private static void waysAtTheEdge() {
        CHECK.sentence(0, "From a CELL a WAY leads to the next one; it stays, if that would be without the sea");
        for (int c = 0; c < 64; c++) {
            IceBoats x = new IceBoats();
            for (int way = 0; way < 5; way++) {
                x.boat(way, 0, c, 10);
                x.go(way, way);
            }
            x.tick();
            for (int way = 0; way < 5; way++) {
                CHECK.asked(x, "from " + c + " by " + way, x.told(way, 1), beside(c, way));
                x.could(way);
                CHECK.due("COULD from " + c + " by " + way, x.set(), 1L << beside(c, way));
                CHECK.asked(x, "POWER from " + c + " by " + way, x.told(way, 2), way == 0 ? 10 : 8);
            }
        }
    }

    private static void currentsAtTheEdge() {
        CHECK.sentence(0, "a CURRENT leads as a WAY does; it stays, if that would be without the sea");
        int[][] edges = {{0, 1}, {7, 1}, {3, 1}, {0, 2}, {56, 2}, {24, 2}, {7, 3}, {63, 3}, {31, 3}, {56, 4}, {63, 4}, {60, 4}};
        for (int[] edge : edges) {
            IceBoats x = new IceBoats();
            x.cell(edge[0], edge[1], 1, 0);
            for (int b = 0; b < 6; b++) {
                x.boat(b, 0, edge[0], 10);
            }
            CHECK.ticks(x, 3);
            for (int b = 0; b < 6; b++) {
                CHECK.asked(x, "carried from " + edge[0] + " by " + edge[1], x.told(b, 1), edge[0]);
                CHECK.due("COULD", x.could(b), 1);
                CHECK.due("set()", x.set(), 1L << edge[0]);
            }
        }
    }

    private static void waysToRock() {
        CHECK.sentence(0, "it stays, if that would be without the sea, or ROCK");
        for (int way = 1; way < 5; way++) {
            IceBoats x = new IceBoats();
            x.rock(beside(27, way), true);
            for (int b = 0; b < 6; b++) {
                x.boat(b, 0, 27, 10);
            }
            x.go(0, way);
            x.cell(27, way, 1, 0);
            CHECK.ticks(x, 3);
            for (int b = 0; b < 6; b++) {
                CHECK.asked(x, "before ROCK by " + way, x.told(b, 1), 27);
                x.could(b);
                CHECK.due("COULD", x.set(), 1L << 27);
            }
            x.rock(beside(27, way), false);
            x.cell(27, 0, 1, 0);
            x.go(0, way);
            x.tick();
            CHECK.asked(x, "ROCK no more, by " + way, x.told(0, 1), beside(27, way));
        }
    }

    // The next number, without an int that wraps: what is beyond 32 bits is taken away, and a sign is made of bit 31
    private static int nextLot(int l) {
        BigInteger next = BigInteger.valueOf(l).multiply(BigInteger.valueOf(1103515245)).add(BigInteger.valueOf(12345));
        return next.mod(BigInteger.ONE.shiftLeft(32)).intValue();
    }

    private static boolean carries(int l) {
        long unsigned = l < 0 ? l + (1L << 32) : l;
        return unsigned / 65536 % 32768 % 4 != 0;
    }

    private static void lots() {
        CHECK.sentence(0, "l = l times 1103515245 and 12345 (an int that wraps), and its bits 16 and on (15 of them), modulo 4");
        for (int seed : new int[] {1, 0, -1, 2, LEAST, GREATEST, 1 << 16, 1103515245, -12345, 0x40000000}) {
            IceBoats x = new IceBoats();
            for (int c = 0; c < 64; c++) {
                x.cell(c, 3, 1, 0);
            }
            for (int b = 0; b < 6; b++) {
                x.boat(b, 0, 8 * b, 10);
            }
            if (seed != 1) {
                x.seed(seed);
            }
            int l = seed;
            int[] at = {0, 8, 16, 24, 32, 40};
            for (int t = 0; t < 7; t++) {
                x.tick();
                for (int b = 0; b < 6; b++) {
                    l = nextLot(l);
                    at[b] = carries(l) ? at[b] + 1 : at[b];
                    CHECK.asked(x, "l of " + seed + ", TICK " + t + ", BOAT " + b, x.told(b, 1), at[b]);
                }
            }
        }
        CHECK.sentence(0, "(an ANCHOR is not carried, and draws none)");
        IceBoats x = new IceBoats();
        x.cell(9, 3, 1, 0);
        for (int b = 0; b < 5; b++) {
            x.boat(b, 3, 9, 10);
        }
        int l = 1;
        for (int t = 0; t < 12; t++) {
            x.boat(5, 0, 9, 10);
            x.tick();
            l = nextLot(l);
            CHECK.asked(x, "the only one that draws, TICK " + t, x.told(5, 1), carries(l) ? 10 : 9);
            CHECK.asked(x, "an ANCHOR", x.told(0, 1), 9);
        }
    }

    private static void becomingRock() {
        IceBoats x = new IceBoats();
        CHECK.sentence(9, "1 if it was, else 0");
        for (int c : new int[] {1, 63}) {
            CHECK.due("none stays none", x.rock(c, false), 0);
            CHECK.due("becomes ROCK", x.rock(c, true), 0);
            CHECK.due("ROCK stays ROCK", x.rock(c, true), 1);
            CHECK.due("becomes none", x.rock(c, false), 1);
            CHECK.due("none", x.rock(c, false), 0);
        }
        CHECK.sentence(9, "BAD");
        for (int c : NO_CELLS) {
            CHECK.bad(x, "rock(" + c + ", true)", () -> x.rock(c, true));
            CHECK.bad(x, "rock(" + c + ", false)", () -> x.rock(c, false));
        }
        CHECK.sentence(9, "STATE: a BOAT, THE HOLE is there, as it becomes ROCK");
        CHECK.state(x, "both are there", () -> x.rock(0, true));
        CHECK.due("as it becomes none", x.rock(0, false), 0);
        x.hole(63);
        CHECK.state(x, "just BOATS are there", () -> x.rock(0, true));
        CHECK.state(x, "just THE HOLE is there", () -> x.rock(63, true));
        CHECK.due("THE HOLE, as it becomes none", x.rock(63, false), 0);
        for (int b = 0; b < 5; b++) {
            x.boat(b, 0, 9, 10);
        }
        CHECK.state(x, "the last BOAT is there", () -> x.rock(0, true));
        x.boat(5, 0, 63, 10);
        x.home(5);
        CHECK.due("none is there any more", x.rock(0, true), 0);
        for (int b = 0; b < 5; b++) {
            int c = 40 + b;
            x.boat(b, 0, c, 10);
            CHECK.state(x, "just BOAT " + b + " is there", () -> x.rock(c, true));
        }
        x.hole(62);
        CHECK.state(x, "a HOME one is there", () -> x.rock(63, true));
        CHECK.due("THE HOLE is there no more", x.rock(61, true), 0);
    }

    private static void cellNumbers() {
        IceBoats x = new IceBoats();
        CHECK.sentence(10, "CURRENT, WARMTH, ICE of a CELL: 1: the ends");
        int[][] ends = {{0, 0, 1, 0}, {63, 4, 4, 9}, {0, 4, 1, 9}, {63, 0, 4, 0}};
        for (int[] end : ends) {
            CHECK.due("cell", x.cell(end[0], end[1], end[2], end[3]), 1);
            for (int what = 1; what <= 3; what++) {
                CHECK.asked(x, "sea(" + end[0] + ", " + what + ")", x.sea(end[0], what), end[what]);
            }
        }
        CHECK.sentence(10, "BAD");
        for (int c : NO_CELLS) {
            CHECK.bad(x, "CELL " + c, () -> x.cell(c, 0, 1, 0));
        }
        for (int way : new int[] {-1, 5, NONE, LEAST, GREATEST}) {
            CHECK.bad(x, "CURRENT " + way, () -> x.cell(5, way, 2, 3));
        }
        for (int warmth : new int[] {0, -1, 5, NONE, LEAST, GREATEST}) {
            CHECK.bad(x, "WARMTH " + warmth, () -> x.cell(5, 1, warmth, 3));
        }
        for (int ice : new int[] {-1, 10, NONE, LEAST, GREATEST}) {
            CHECK.bad(x, "ICE " + ice, () -> x.cell(5, 1, 2, ice));
        }
        CHECK.sentence(10, "of a CELL that is ROCK, too");
        x.rock(5, true);
        CHECK.due("cell of ROCK", x.cell(5, 1, 2, 3), 1);
        CHECK.asked(x, "its ICE", x.sea(5, 3), 3);
        CHECK.asked(x, "ROCK yet", x.sea(5, 0), 1);
    }

    private static void whatOfTheSea() {
        IceBoats x = new IceBoats();
        CHECK.sentence(11, "BAD");
        for (int what : new int[] {-1, 5, NONE, LEAST, GREATEST}) {
            CHECK.bad(x, "sea(0, " + what + ")", () -> x.sea(0, what));
        }
        for (int c : NO_CELLS) {
            CHECK.bad(x, "sea(" + c + ", 4)", () -> x.sea(c, 4));
        }
        CHECK.sentence(11, "0 ROCK (1, 0)");
        x.rock(63, true);
        CHECK.asked(x, "ROCK", x.sea(63, 0), 1);
        CHECK.asked(x, "none", x.sea(62, 0), 0);
        CHECK.sentence(11, "4 what the CHART tells (NONE)");
        CHECK.asked(x, "the CHART of the last CELL", x.sea(63, 4), NONE);
    }

    private static void charts() {
        IceBoats x = new IceBoats();
        CHECK.sentence(12, "The CHART tells ICE of a CELL (NONE: nothing): 1.");
        for (int c : new int[] {0, 63}) {
            for (int ice : new int[] {0, 9, NONE, 5, NONE}) {
                CHECK.due("chart(" + c + ", " + ice + ")", x.chart(c, ice), 1);
                CHECK.asked(x, "sea(" + c + ", 4)", x.sea(c, 4), ice);
                CHECK.asked(x, "the ICE itself", x.sea(c, 3), 0);
            }
        }
        CHECK.sentence(12, "BAD");
        for (int ice : new int[] {-1, 10, -8, -10, LEAST, GREATEST}) {
            CHECK.bad(x, "chart(0, " + ice + ")", () -> x.chart(0, ice));
        }
        for (int c : NO_CELLS) {
            CHECK.bad(x, "chart(" + c + ", 0)", () -> x.chart(c, 0));
            CHECK.bad(x, "chart(" + c + ", NONE)", () -> x.chart(c, NONE));
        }
    }

    private static void holes() {
        IceBoats x = new IceBoats();
        CHECK.sentence(13, "THE HOLE is in a CELL: where it was.");
        CHECK.due("the last CELL", x.hole(63), 0);
        CHECK.due("the same one", x.hole(63), 63);
        CHECK.due("where BOATS are", x.hole(0), 63);
        CHECK.sentence(13, "BAD");
        for (int c : NO_CELLS) {
            CHECK.bad(x, "hole(" + c + ")", () -> x.hole(c));
        }
        CHECK.sentence(13, "STATE: ROCK");
        x.rock(63, true);
        CHECK.state(x, "hole(63)", () -> x.hole(63));
        x.rock(63, false);
        CHECK.due("ROCK no more", x.hole(63), 0);
    }

    private static void seeds() {
        CHECK.sentence(14, "LOTS begin with l: 1: any int; anew each time");
        for (int l : new int[] {0, 1, -1, LEAST, GREATEST}) {
            IceBoats x = new IceBoats();
            for (int c = 0; c < 64; c++) {
                x.cell(c, 4, 1, 0);
            }
            CHECK.due("seed(" + l + ")", x.seed(l), 1);
            int[] first = drawn(x);
            drawn(x);
            CHECK.due("seed(" + l + ") again", x.seed(l), 1);
            int[] again = drawn(x);
            for (int b = 0; b < 6; b++) {
                CHECK.due("alike, BOAT " + b, again[b], first[b]);
            }
        }
    }

    private static int[] drawn(IceBoats x) {
        int[] at = new int[6];
        for (int b = 0; b < 6; b++) {
            x.boat(b, 0, b, 10);
        }
        CHECK.ticks(x, 5);
        for (int b = 0; b < 6; b++) {
            x.told(b, 1);
            at[b] = x.asked();
        }
        return at;
    }
}
