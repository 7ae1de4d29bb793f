import java.util.Arrays;

/** The boundary cases of ROWS and TEXTS: promises 1 to 8, and part 1 of the terms. */
final class EdgeRowsTest {
    private static final Check CHECK = new Check("edges of rows");
    private static final int LEAST = Integer.MIN_VALUE, GREATEST = Integer.MAX_VALUE;

    public static void main(String[] args) {
        missingAtFirst();
        sizesOfRows();
        rowsAnew();
        placesOfRows();
        torn();
        sizesOfCopies();
        missingForCopies();
        placesForCopies();
        asIfTakenAhead();
        means();
        sizesOfTexts();
        placesOfTexts();
        cutToBytes();
        CHECK.end();
    }

    private static void holds(IceBoats x, int r, int... places) {
        for (int i = 0; i < places.length; i++) {
            CHECK.asked(x, "place " + i + " of ROW " + r, x.lay(r, i, places[i]), places[i]);
        }
        CHECK.found(x, "the place behind ROW " + r, () -> x.lay(r, places.length, 1), Check.BEYOND);
    }

    private static void missingAtFirst() {
        IceBoats x = new IceBoats();
        CHECK.sentence(1, "No ROWS, TEXTS, words, LOOKS; THE TICK 0.");
        for (int what : new int[] {0, 2, 3, 6, 7}) {
            CHECK.due("count(" + what + ")", x.count(what), 0);
        }
        CHECK.sentence(0, "or missing (at first)");
        for (int r = 0; r < 6; r++) {
            int of = r;
            CHECK.found(x, "lay(" + r + ")", () -> x.lay(of, 0, 1), Check.NOTHING);
            CHECK.found(x, "tear(" + r + ")", () -> x.tear(of), Check.NOTHING);
            CHECK.found(x, "mean(" + r + ")", () -> x.mean(of), Check.NOTHING);
        }
        for (int t = 0; t < 4; t++) {
            int of = t;
            CHECK.found(x, "put(" + t + ")", () -> x.put(of, 0, 1), Check.NOTHING);
            CHECK.found(x, "fault(" + t + ")", () -> x.fault(of), Check.NOTHING);
        }
    }

    private static void sizesOfRows() {
        IceBoats x = new IceBoats();
        for (int r = 0; r < 6; r++) {
            int of = r;
            CHECK.sentence(2, "BAD: also n above 40");
            CHECK.bad(x, "row(" + r + ", 41)", () -> x.row(of, 41));
            CHECK.bad(x, "row(" + r + ", greatest)", () -> x.row(of, GREATEST));
            CHECK.sentence(2, "SIZE: below 0");
            CHECK.found(x, "row(" + r + ", -1)", () -> x.row(of, -1), Check.SIZE);
            CHECK.found(x, "row(" + r + ", least)", () -> x.row(of, LEAST), Check.SIZE);
            CHECK.due("none is there by that", x.count(6), r);
            CHECK.sentence(0, "ROWS 0 .. 5 are rows of 0 to 40 ints");
            CHECK.due("row(" + r + ", 0)", x.row(r, 0), 0);
            CHECK.due("row(" + r + ", 1)", x.row(r, 1), 1);
            CHECK.due("row(" + r + ", 40)", x.row(r, 40), 40);
            CHECK.due("they are there", x.count(6), r + 1);
        }
        CHECK.sentence(2, "BAD goes ahead of SIZE");
        CHECK.bad(x, "row(6, -1)", () -> x.row(6, -1));
        CHECK.bad(x, "row(-1, -1)", () -> x.row(-1, -1));
        CHECK.bad(x, "row(least, least)", () -> x.row(LEAST, LEAST));
        CHECK.sentence(2, "what is refused leaves the ROW as it was");
        CHECK.row(x, 0, 7, 8);
        CHECK.bad(x, "row(0, 41)", () -> x.row(0, 41));
        CHECK.found(x, "row(0, -1)", () -> x.row(0, -1), Check.SIZE);
        holds(x, 0, 7, 8);
    }

    private static void rowsAnew() {
        IceBoats x = new IceBoats();
        CHECK.sentence(2, "A ROW is there with n ints 0: n.");
        CHECK.fill(x, 0, 40, 9);
        x.row(0, 3);
        holds(x, 0, 0, 0, 0);
        CHECK.fill(x, 0, 3, 9);
        x.row(0, 40);
        holds(x, 0, new int[40]);
        CHECK.fill(x, 1, 5, 9);
        x.row(1, 0);
        holds(x, 1);
        CHECK.fill(x, 2, 2, 9);
        x.tear(2);
        x.row(2, 2);
        holds(x, 2, 0, 0);
    }

    private static void placesOfRows() {
        IceBoats x = new IceBoats();
        x.row(0, 40);
        x.row(1, 0);
        CHECK.sentence(3, "what it was, told by asked(): 1");
        CHECK.asked(x, "the first place", x.lay(0, 0, LEAST), 0);
        CHECK.asked(x, "the least int", x.lay(0, 0, GREATEST), LEAST);
        CHECK.asked(x, "the greatest int", x.lay(0, 0, -1), GREATEST);
        CHECK.asked(x, "-1", x.lay(0, 0, -9), -1);
        CHECK.asked(x, "NONE", x.lay(0, 0, 0), -9);
        CHECK.asked(x, "the last place", x.lay(0, 39, 5), 0);
        CHECK.sentence(3, "BEYOND");
        for (int i : new int[] {-1, 40, 41, LEAST, GREATEST}) {
            CHECK.found(x, "lay(0, " + i + ", 1)", () -> x.lay(0, i, 1), Check.BEYOND);
        }
        for (int i : new int[] {-1, 0, 1, LEAST, GREATEST}) {
            CHECK.found(x, "of a ROW of none, lay(1, " + i + ", 1)", () -> x.lay(1, i, 1), Check.BEYOND);
        }
        CHECK.sentence(3, "BAD; NOTHING; BEYOND, in this order");
        CHECK.found(x, "missing, beyond", () -> x.lay(2, 40, 1), Check.NOTHING);
        CHECK.found(x, "missing, -1", () -> x.lay(2, -1, 1), Check.NOTHING);
        CHECK.bad(x, "no ROW, beyond", () -> x.lay(6, 40, 1));
        CHECK.bad(x, "no ROW, -1", () -> x.lay(-1, -1, 1));
    }

    private static void torn() {
        IceBoats x = new IceBoats();
        CHECK.sentence(4, "A ROW is missing: 1");
        x.row(0, 0);
        x.row(5, 40);
        CHECK.due("of none", x.tear(0), 1);
        CHECK.due("of 40", x.tear(5), 1);
        CHECK.due("ROWS", x.count(6), 0);
        CHECK.sentence(4, "NOTHING");
        CHECK.found(x, "again", () -> x.tear(0), Check.NOTHING);
        CHECK.found(x, "again", () -> x.tear(5), Check.NOTHING);
        CHECK.sentence(4, "BAD");
        for (int r : new int[] {-1, 6, LEAST, GREATEST}) {
            CHECK.bad(x, "tear(" + r + ")", () -> x.tear(r));
        }
    }

    private static void sizesOfCopies() {
        IceBoats x = new IceBoats();
        CHECK.row(x, 0, 1, 2, 3);
        CHECK.row(x, 1, 4, 5, 6);
        CHECK.sentence(5, "SIZE: n below 0");
        CHECK.found(x, "-1", () -> x.copy(0, 0, 1, 0, -1), Check.SIZE);
        CHECK.found(x, "the least", () -> x.copy(0, 0, 1, 0, LEAST), Check.SIZE);
        CHECK.found(x, "ahead of NOTHING", () -> x.copy(2, 0, 3, 0, -1), Check.SIZE);
        CHECK.found(x, "ahead of BEYOND", () -> x.copy(0, 9, 1, -9, -1), Check.SIZE);
        CHECK.bad(x, "behind BAD, from", () -> x.copy(6, 0, 1, 0, -1));
        CHECK.bad(x, "behind BAD, to", () -> x.copy(0, 0, -1, 0, -1));
        CHECK.sentence(5, "n places: 0 of them");
        CHECK.due("none", x.copy(0, 0, 1, 0, 0), 1);
        CHECK.due("none, from behind the last", x.copy(0, 3, 1, 0, 0), 1);
        CHECK.due("none, to behind the last", x.copy(0, 0, 1, 3, 0), 1);
        holds(x, 0, 1, 2, 3);
        holds(x, 1, 4, 5, 6);
        x.row(4, 0);
        x.row(5, 0);
        CHECK.due("none of none to none", x.copy(4, 0, 5, 0, 0), 1);
        CHECK.sentence(5, "n places: all of them");
        CHECK.due("all", x.copy(0, 0, 1, 0, 3), 1);
        holds(x, 1, 1, 2, 3);
        CHECK.fill(x, 4, 40, 7);
        x.row(5, 40);
        CHECK.due("40", x.copy(4, 0, 5, 0, 40), 1);
        CHECK.asked(x, "the first", x.lay(5, 0, 0), 7);
        CHECK.asked(x, "the last", x.lay(5, 39, 0), 7);
    }

    private static void missingForCopies() {
        IceBoats x = new IceBoats();
        x.row(0, 3);
        CHECK.sentence(5, "NOTHING: either");
        CHECK.found(x, "from", () -> x.copy(1, 0, 0, 0, 1), Check.NOTHING);
        CHECK.found(x, "to", () -> x.copy(0, 0, 1, 0, 1), Check.NOTHING);
        CHECK.found(x, "both", () -> x.copy(1, 0, 2, 0, 1), Check.NOTHING);
        CHECK.found(x, "one with itself", () -> x.copy(1, 0, 1, 0, 0), Check.NOTHING);
        CHECK.found(x, "ahead of BEYOND, from", () -> x.copy(1, 9, 0, 9, 1), Check.NOTHING);
        CHECK.found(x, "ahead of BEYOND, to", () -> x.copy(0, 9, 1, 9, 1), Check.NOTHING);
        CHECK.bad(x, "behind BAD", () -> x.copy(1, 0, 6, 0, 1));
        CHECK.bad(x, "behind BAD", () -> x.copy(-1, 0, 1, 0, 1));
    }

    private static void placesForCopies() {
        IceBoats x = new IceBoats();
        x.row(0, 5);
        x.row(1, 3);
        x.row(2, 40);
        CHECK.sentence(5, "BEYOND: not so many there");
        CHECK.due("just so many there", x.copy(0, 2, 1, 0, 3), 1);
        CHECK.found(x, "one too few to be taken", () -> x.copy(0, 3, 1, 0, 3), Check.BEYOND);
        CHECK.found(x, "one too few to be laid", () -> x.copy(0, 0, 1, 1, 3), Check.BEYOND);
        CHECK.found(x, "more than are there", () -> x.copy(1, 0, 0, 0, 4), Check.BEYOND);
        CHECK.found(x, "41 of 40", () -> x.copy(2, 0, 2, 0, 41), Check.BEYOND);
        CHECK.found(x, "from -1", () -> x.copy(0, -1, 1, 0, 1), Check.BEYOND);
        CHECK.found(x, "to -1", () -> x.copy(0, 0, 1, -1, 1), Check.BEYOND);
        CHECK.found(x, "none, from -1", () -> x.copy(0, -1, 1, 0, 0), Check.BEYOND);
        CHECK.found(x, "none, to -1", () -> x.copy(0, 0, 1, -1, 0), Check.BEYOND);
        CHECK.found(x, "none, from behind the end", () -> x.copy(0, 6, 1, 0, 0), Check.BEYOND);
        CHECK.found(x, "none, to behind the end", () -> x.copy(0, 0, 1, 4, 0), Check.BEYOND);
        CHECK.sentence(5, "BEYOND, where place and n are more together than an int holds");
        int[][] wrapping = {{GREATEST, 1}, {GREATEST, GREATEST}, {1, GREATEST}, {LEAST, GREATEST}, {LEAST, 0}, {GREATEST, 0}, {-1, GREATEST}};
        for (int[] pair : wrapping) {
            CHECK.found(x, "from " + pair[0] + ", " + pair[1], () -> x.copy(0, pair[0], 2, 0, pair[1]), Check.BEYOND);
            CHECK.found(x, "to " + pair[0] + ", " + pair[1], () -> x.copy(2, 0, 0, pair[0], pair[1]), Check.BEYOND);
        }
        CHECK.sentence(5, "BEYOND lays none of them");
        CHECK.row(x, 0, 1, 2);
        CHECK.row(x, 1, 3, 4);
        CHECK.found(x, "one too many", () -> x.copy(0, 0, 1, 1, 2), Check.BEYOND);
        holds(x, 1, 3, 4);
    }

    private static void asIfTakenAhead() {
        CHECK.sentence(5, "(perhaps itself) from one on, as if taken ahead");
        for (int by = 0; by <= 39; by += 13) {
            IceBoats up = new IceBoats();
            IceBoats down = new IceBoats();
            int[] places = new int[40];
            for (int i = 0; i < 40; i++) {
                places[i] = 100 + i;
            }
            CHECK.row(up, 3, places);
            CHECK.row(down, 3, places);
            CHECK.due("up by " + by, up.copy(3, 0, 3, by, 40 - by), 1);
            CHECK.due("down by " + by, down.copy(3, by, 3, 0, 40 - by), 1);
            int[] shiftedUp = places.clone();
            int[] shiftedDown = places.clone();
            for (int i = 0; i < 40 - by; i++) {
                shiftedUp[i + by] = 100 + i;
                shiftedDown[i] = 100 + i + by;
            }
            holds(up, 3, shiftedUp);
            holds(down, 3, shiftedDown);
        }
    }

    private static void mean(String what, long due, int... places) {
        IceBoats x = new IceBoats();
        CHECK.row(x, 5, places);
        CHECK.asked(x, "mean of " + what, x.mean(5), due);
    }

    private static void means() {
        IceBoats x = new IceBoats();
        CHECK.sentence(6, "NOUGHT (shared among none)");
        x.row(0, 0);
        CHECK.found(x, "of none", () -> x.mean(0), Check.NOUGHT);
        CHECK.sentence(6, "BAD; NOTHING; NOUGHT, in this order");
        CHECK.found(x, "missing", () -> x.mean(1), Check.NOTHING);
        CHECK.bad(x, "mean(6)", () -> x.mean(6));
        CHECK.bad(x, "mean(-1)", () -> x.mean(-1));
        CHECK.sentence(6, "The mean of a ROW's ints, cut");
        mean("one", 7, 7);
        mean("1, 2", 1, 1, 2);
        mean("-1, -2", -1, -1, -2);
        mean("1, 0, 0", 0, 1, 0, 0);
        mean("-1, 0, 0", 0, -1, 0, 0);
        mean("-5, 2", -1, -5, 2);
        CHECK.sentence(6, "The mean, where the sum is more than an int holds");
        int[] all = new int[40];
        Arrays.fill(all, GREATEST);
        mean("40 of the greatest", GREATEST, all);
        Arrays.fill(all, LEAST);
        mean("40 of the least", LEAST, all);
        mean("the least and the greatest", 0, LEAST, GREATEST);
        mean("the greatest, and 1", 1 << 30, GREATEST, 1);
        mean("the least, and -2", -1073741825, LEAST, -2);
    }

    private static void sizesOfTexts() {
        IceBoats x = new IceBoats();
        for (int t = 0; t < 4; t++) {
            int of = t;
            CHECK.sentence(7, "BAD: also n above 40");
            CHECK.bad(x, "text(" + t + ", 41)", () -> x.text(of, 41));
            CHECK.bad(x, "text(" + t + ", greatest)", () -> x.text(of, GREATEST));
            CHECK.sentence(7, "SIZE: below 0");
            CHECK.found(x, "text(" + t + ", -1)", () -> x.text(of, -1), Check.SIZE);
            CHECK.found(x, "text(" + t + ", least)", () -> x.text(of, LEAST), Check.SIZE);
            CHECK.due("none is there by that", x.count(7), t);
            CHECK.sentence(0, "TEXTS 0 .. 3 rows of 0 to 40 bytes");
            CHECK.due("text(" + t + ", 0)", x.text(t, 0), 0);
            CHECK.due("text(" + t + ", 40)", x.text(t, 40), 40);
            CHECK.due("they are there", x.count(7), t + 1);
        }
        CHECK.sentence(7, "BAD goes ahead of SIZE");
        CHECK.bad(x, "text(4, -1)", () -> x.text(4, -1));
        CHECK.bad(x, "text(-1, -1)", () -> x.text(-1, -1));
        CHECK.sentence(7, "A TEXT is there with n blanks");
        for (int i = 0; i < 40; i++) {
            CHECK.due("a blank at " + i, x.put(1, i, 65), 1032);
        }
        CHECK.found(x, "text(1, -1) leaves it", () -> x.text(1, -1), Check.SIZE);
        CHECK.bad(x, "text(1, 41) leaves it", () -> x.text(1, 41));
        CHECK.due("as it was", x.put(1, 39, 65), 1065);
        x.text(1, 2);
        CHECK.due("a blank anew", x.put(1, 0, 65), 1032);
        x.text(1, 40);
        CHECK.due("a blank anew", x.put(1, 39, 65), 1032);
    }

    private static void placesOfTexts() {
        IceBoats x = new IceBoats();
        x.text(0, 40);
        x.text(1, 0);
        CHECK.sentence(8, "BEYOND");
        for (int i : new int[] {-1, 40, LEAST, GREATEST}) {
            CHECK.found(x, "put(0, " + i + ", 1)", () -> x.put(0, i, 1), Check.BEYOND);
        }
        for (int i : new int[] {-1, 0, LEAST, GREATEST}) {
            CHECK.found(x, "of a TEXT of none, put(1, " + i + ", 1)", () -> x.put(1, i, 1), Check.BEYOND);
        }
        CHECK.due("the first", x.put(0, 0, 1), 1032);
        CHECK.due("the last", x.put(0, 39, 1), 1032);
        CHECK.sentence(8, "BAD; NOTHING; BEYOND, in this order");
        CHECK.found(x, "missing, beyond", () -> x.put(2, 40, 1), Check.NOTHING);
        CHECK.bad(x, "no TEXT, beyond", () -> x.put(4, 40, 1));
        CHECK.bad(x, "no TEXT, -1", () -> x.put(-1, -1, 1));
    }

    private static void cutToBytes() {
        IceBoats x = new IceBoats();
        x.text(3, 1);
        CHECK.sentence(8, "Byte i of a TEXT is v, cut to a byte: what it was, and 1000 more.");
        int[][] cut = {{127, 127}, {128, -128}, {255, -1}, {256, 0}, {-1, -1}, {-128, -128}, {-129, 127}, {-256, 0}, {511, -1},
            {65535, -1}, {65536, 0}, {LEAST, 0}, {GREATEST, -1}, {0x12345678, 0x78}, {0xFEDCBA98, -0x68}};
        int was = 32;
        for (int[] one : cut) {
            CHECK.due("put " + one[0], x.put(3, 0, one[0]), 1000 + was);
            was = one[1];
        }
        CHECK.due("the last", x.put(3, 0, 0), 1000 + was);
    }
}
