/** Promises 2 to 8: ROWS and TEXTS. */
final class RowsTest {
    private static final Check CHECK = new Check("rows");

    public static void main(String[] args) {
        rows();
        copies();
        means();
        texts();
        CHECK.end();
    }

    private static void rows() {
        IceBoats x = new IceBoats();
        for (int r : new int[] {-1, 6, Integer.MIN_VALUE, Integer.MAX_VALUE}) {
            CHECK.refused(x, "row(" + r + ", 1)", () -> x.row(r, 1), IceBoats.BAD);
            CHECK.refused(x, "row(" + r + ", -1)", () -> x.row(r, -1), IceBoats.BAD);
            CHECK.refused(x, "lay(" + r + ", 0, 1)", () -> x.lay(r, 0, 1), IceBoats.BAD);
            CHECK.refused(x, "tear(" + r + ")", () -> x.tear(r), IceBoats.BAD);
        }
        CHECK.refused(x, "row(0, 41)", () -> x.row(0, 41), IceBoats.BAD);
        CHECK.refused(x, "row(0, max)", () -> x.row(0, Integer.MAX_VALUE), IceBoats.BAD);
        CHECK.found(x, "row(0, -1)", () -> x.row(0, -1), Check.SIZE);
        CHECK.found(x, "row(0, min)", () -> x.row(0, Integer.MIN_VALUE), Check.SIZE);
        CHECK.found(x, "lay of a missing one", () -> x.lay(0, 0, 1), Check.NOTHING);
        CHECK.found(x, "lay of a missing one, place -1", () -> x.lay(0, -1, 1), Check.NOTHING);
        CHECK.found(x, "tear of a missing one", () -> x.tear(0), Check.NOTHING);
        CHECK.due("row(0, 0)", x.row(0, 0), 0);
        CHECK.found(x, "lay(0, 0, 1), none there", () -> x.lay(0, 0, 1), Check.BEYOND);
        CHECK.due("row(5, 40)", x.row(5, 40), 40);
        CHECK.asked(x, "lay(5, 39, 7)", x.lay(5, 39, 7), 0);
        CHECK.asked(x, "lay(5, 39, min)", x.lay(5, 39, Integer.MIN_VALUE), 7);
        CHECK.asked(x, "lay(5, 39, 2)", x.lay(5, 39, 2), Integer.MIN_VALUE);
        CHECK.found(x, "lay(5, 40, 1)", () -> x.lay(5, 40, 1), Check.BEYOND);
        CHECK.found(x, "lay(5, -1, 1)", () -> x.lay(5, -1, 1), Check.BEYOND);
        CHECK.found(x, "row(5, -1) leaves it", () -> x.row(5, -1), Check.SIZE);
        CHECK.due("row(5, 40) again", x.row(5, 40), 40);
        CHECK.asked(x, "lay(5, 39, 3), 0 anew", x.lay(5, 39, 3), 0);
        x.lay(5, 0, 8);
        CHECK.due("row(5, 2)", x.row(5, 2), 2);
        CHECK.asked(x, "lay(5, 0, 0), 0 anew", x.lay(5, 0, 0), 0);
        CHECK.found(x, "lay(5, 2, 1), shorter now", () -> x.lay(5, 2, 1), Check.BEYOND);
        CHECK.due("tear(5)", x.tear(5), 1);
        CHECK.found(x, "lay of a torn one", () -> x.lay(5, 0, 1), Check.NOTHING);
        CHECK.due("count(6)", x.count(6), 1);
    }

    private static void copies() {
        IceBoats x = new IceBoats();
        CHECK.row(x, 0, 1, 2, 3, 4, 5);
        CHECK.row(x, 1, 9, 9, 9);
        CHECK.due("copy(0, 1, 1, 0, 3)", x.copy(0, 1, 1, 0, 3), 1);
        CHECK.asked(x, "place 0", x.lay(1, 0, 0), 2);
        CHECK.asked(x, "place 2", x.lay(1, 2, 0), 4);
        CHECK.due("copy up in itself", x.copy(0, 0, 0, 1, 4), 1);
        for (int i = 0; i < 5; i++) {
            CHECK.asked(x, "up, place " + i, x.lay(0, i, i), i == 0 ? 1 : i);
        }
        CHECK.due("copy down in itself", x.copy(0, 1, 0, 0, 4), 1);
        for (int i = 0; i < 5; i++) {
            CHECK.asked(x, "down, place " + i, x.lay(0, i, 0), Math.min(i + 1, 4));
        }
        CHECK.due("none, behind the last ones", x.copy(0, 5, 1, 3, 0), 1);
        CHECK.found(x, "none, from beyond", () -> x.copy(0, 6, 1, 0, 0), Check.BEYOND);
        CHECK.found(x, "none, from -1", () -> x.copy(0, -1, 1, 0, 0), Check.BEYOND);
        CHECK.found(x, "none, to beyond", () -> x.copy(0, 0, 1, 4, 0), Check.BEYOND);
        CHECK.found(x, "from too few", () -> x.copy(0, 3, 1, 0, 3), Check.BEYOND);
        CHECK.found(x, "to too few", () -> x.copy(0, 0, 1, 1, 3), Check.BEYOND);
        CHECK.found(x, "to -1", () -> x.copy(0, 0, 1, -1, 1), Check.BEYOND);
        CHECK.found(x, "more than a sum holds", () -> x.copy(0, Integer.MAX_VALUE, 1, 0, Integer.MAX_VALUE), Check.BEYOND);
        CHECK.found(x, "to a missing one", () -> x.copy(0, 0, 5, 0, 1), Check.NOTHING);
        CHECK.found(x, "from a missing one, beyond", () -> x.copy(5, 9, 0, 9, 1), Check.NOTHING);
        CHECK.found(x, "-1, missing", () -> x.copy(5, 0, 5, 0, -1), Check.SIZE);
        CHECK.refused(x, "from 6", () -> x.copy(6, 0, 0, 0, -1), IceBoats.BAD);
        CHECK.refused(x, "to -1", () -> x.copy(0, 0, -1, 0, 1), IceBoats.BAD);
    }

    private static void means() {
        IceBoats x = new IceBoats();
        CHECK.refused(x, "mean(6)", () -> x.mean(6), IceBoats.BAD);
        CHECK.refused(x, "mean(-1)", () -> x.mean(-1), IceBoats.BAD);
        CHECK.found(x, "mean of a missing one", () -> x.mean(0), Check.NOTHING);
        x.row(0, 0);
        CHECK.found(x, "mean of none", () -> x.mean(0), Check.NOUGHT);
        CHECK.row(x, 0, 1, 2, 5);
        CHECK.asked(x, "mean", x.mean(0), 2);
        CHECK.row(x, 0, -1, -2, -5);
        CHECK.asked(x, "mean, cut to 0", x.mean(0), -2);
        CHECK.row(x, 0, -1, 0);
        CHECK.asked(x, "mean of -1 and 0", x.mean(0), 0);
        CHECK.row(x, 0, Integer.MAX_VALUE, Integer.MAX_VALUE, Integer.MAX_VALUE);
        CHECK.asked(x, "mean of the greatest", x.mean(0), Integer.MAX_VALUE);
        CHECK.row(x, 0, Integer.MIN_VALUE, Integer.MIN_VALUE);
        CHECK.asked(x, "mean of the least", x.mean(0), Integer.MIN_VALUE);
    }

    private static void texts() {
        IceBoats x = new IceBoats();
        for (int t : new int[] {-1, 4, Integer.MIN_VALUE, Integer.MAX_VALUE}) {
            CHECK.refused(x, "text(" + t + ", 1)", () -> x.text(t, 1), IceBoats.BAD);
            CHECK.refused(x, "put(" + t + ", 0, 1)", () -> x.put(t, 0, 1), IceBoats.BAD);
        }
        CHECK.refused(x, "text(0, 41)", () -> x.text(0, 41), IceBoats.BAD);
        CHECK.found(x, "text(0, -1)", () -> x.text(0, -1), Check.SIZE);
        CHECK.found(x, "put of a missing one", () -> x.put(3, 0, 1), Check.NOTHING);
        CHECK.due("text(3, 40)", x.text(3, 40), 40);
        CHECK.found(x, "put(3, 40, 1)", () -> x.put(3, 40, 1), Check.BEYOND);
        CHECK.found(x, "put(3, -1, 1)", () -> x.put(3, -1, 1), Check.BEYOND);
        CHECK.due("put, a blank ahead", x.put(3, 39, 127), 1032);
        CHECK.due("put 128", x.put(3, 39, 128), 1127);
        CHECK.due("put 255", x.put(3, 39, 255), 872);
        CHECK.due("put 256 + 65", x.put(3, 39, 321), 999);
        CHECK.due("put -129", x.put(3, 39, -129), 1065);
        CHECK.due("put 0", x.put(3, 39, 0), 1127);
        CHECK.due("put again", x.put(3, 39, 1), 1000);
        CHECK.due("text(3, 40) anew", x.text(3, 40), 40);
        CHECK.due("blanks anew", x.put(3, 39, 0), 1032);
        CHECK.due("text(0, 0)", x.text(0, 0), 0);
        CHECK.due("count(7)", x.count(7), 2);
    }
}
