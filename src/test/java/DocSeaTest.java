/** Along the document: part 1 of the terms as far as the sea, and promises 1 to 14. */
final class DocSeaTest {
    private static final Check CHECK = new Check("the document: rows, texts, the sea");
    private static final int NONE = IceBoats.NONE;

    public static void main(String[] args) {
        used512Times();
        rowsAndTexts();
        places();
        rowsAnew();
        cellsByXAndY();
        nextCells();
        whatACellHas();
        rockKeepsTheRest();
        rockInCould();
        chartOfAnyCell();
        iceAndChartAreTwo();
        holes();
        seeds();
        CHECK.end();
    }

    private static void used512Times() {
        CHECK.quote(0, "An object is used for at most 512 calls after it has been made");
        IceBoats x = new IceBoats();
        for (int i = 0; i < 510; i++) {
            CHECK.due("tick()", x.tick(), 0);
        }
        CHECK.due("call 511", x.count(0), 510);
        CHECK.due("call 512", x.tick(), 0);
        IceBoats y = new IceBoats();
        for (int i = 0; i < 511; i++) {
            y.row(i % 6, i % 41);
        }
        CHECK.due("call 512, of rows", y.count(6), 6);
    }

    private static void rowsAndTexts() {
        IceBoats x = new IceBoats();
        CHECK.quote(1, "No ROWS, TEXTS, words, LOOKS; THE TICK 0.");
        for (int r = 0; r < 6; r++) {
            int row = r;
            CHECK.found(x, "tear(" + r + ")", () -> x.tear(row), Check.NOTHING);
        }
        for (int t = 0; t < 4; t++) {
            int text = t;
            CHECK.found(x, "fault(" + t + ")", () -> x.fault(text), Check.NOTHING);
        }
        CHECK.bad(x, "word 0", () -> x.word(0, 0));
        CHECK.bad(x, "LOOK 0", () -> x.looked(0, 0));
        CHECK.quote(0, "ROWS 0 .. 5 are rows of 0 to 40 ints, TEXTS 0 .. 3 rows of 0 to 40 bytes, or missing (at first).");
        x.row(2, 3);
        x.text(2, 4);
        CHECK.due("ROW 2 is not TEXT 2", x.put(2, 3, 65), 1032);
        CHECK.asked(x, "TEXT 2 is not ROW 2", x.lay(2, 2, 7), 0);
        CHECK.found(x, "ROW 2 has 3", () -> x.lay(2, 3, 7), Check.BEYOND);
        CHECK.found(x, "TEXT 2 has 4", () -> x.put(2, 4, 7), Check.BEYOND);
        x.tear(2);
        CHECK.due("TEXT 2 is there", x.put(2, 3, 66), 1065);
        CHECK.due("ROWS", x.count(6), 0);
        CHECK.due("TEXTS", x.count(7), 1);
        CHECK.bad(x, "there is no TEXT 4", () -> x.text(4, 1));
        CHECK.due("but a ROW 4", x.row(4, 1), 1);
        CHECK.due("and a ROW 5", x.row(5, 1), 1);
    }

    private static void places() {
        CHECK.quote(3, "Place i of a ROW is v: what it was, told by asked(): 1.");
        IceBoats x = new IceBoats();
        for (int r = 0; r < 6; r++) {
            x.row(r, 40);
        }
        for (int r = 0; r < 6; r++) {
            for (int i = 0; i < 40; i++) {
                CHECK.asked(x, "place " + i + " of ROW " + r, x.lay(r, i, 100 * r + i + 1), 0);
            }
        }
        for (int r = 0; r < 6; r++) {
            for (int i = 0; i < 40; i++) {
                CHECK.asked(x, "place " + i + " of ROW " + r + " again", x.lay(r, i, 100 * r + i + 1), 100 * r + i + 1);
            }
        }
        CHECK.quote(5, "n places of a ROW, from one on, come to those of another one (perhaps itself) from one on, as if taken ahead: 1.");
        CHECK.due("from ROW 1 to ROW 2", x.copy(1, 10, 2, 30, 5), 1);
        for (int i = 0; i < 40; i++) {
            CHECK.asked(x, "ROW 2, " + i, x.lay(2, i, 0), i >= 30 && i < 35 ? 100 + i - 20 + 1 : 200 + i + 1);
            CHECK.asked(x, "ROW 1, " + i, x.lay(1, i, 0), 100 + i + 1);
        }
        for (int by : new int[] {-3, -1, 0, 1, 3}) {
            CHECK.row(x, 0, 0, 1, 2, 3, 4, 5, 6, 7, 8, 9);
            CHECK.due("to itself, by " + by, x.copy(0, 3, 0, 3 + by, 4), 1);
            for (int i = 0; i < 10; i++) {
                CHECK.asked(x, "by " + by + ", " + i, x.lay(0, i, 0), i >= 3 + by && i < 7 + by ? i - by : i);
            }
        }
        CHECK.quote(8, "Byte i of a TEXT is v, cut to a byte: what it was, and 1000 more.");
        x.text(0, 1);
        int[] put = {0, 127, 128, 255, 256, -1, -128, -129, Integer.MAX_VALUE, Integer.MIN_VALUE, 72 + 512};
        int was = 32;
        for (int v : put) {
            CHECK.due("put(" + v + ")", x.put(0, 0, v), was + 1000);
            was = (v & 255) >= 128 ? (v & 255) - 256 : v & 255;
        }
        CHECK.due("the last one", x.put(0, 0, 0), 1072);
    }

    private static void rowsAnew() {
        IceBoats x = new IceBoats();
        CHECK.quote(2, "A ROW is there with n ints 0: n.");
        int[] sevens = new int[40];
        java.util.Arrays.fill(sevens, 7);
        for (int n : new int[] {40, 39, 31, 8, 1}) {
            CHECK.row(x, 0, sevens);
            CHECK.due("torn", x.tear(0), 1);
            CHECK.due("there again", x.row(0, n), n);
            for (int i = 0; i < n; i++) {
                CHECK.asked(x, "place " + i + " of " + n, x.lay(0, i, 7), 0);
            }
            CHECK.due("made anew without being torn", x.row(0, n), n);
            for (int i = 0; i < n; i++) {
                CHECK.asked(x, "place " + i + " of " + n, x.lay(0, i, 7), 0);
            }
        }
        CHECK.quote(7, "A TEXT is there with n blanks: n.");
        for (int n : new int[] {40, 39, 31, 8, 1}) {
            CHECK.text(x, 1, "EEEEEEEEEEEEEEEEEEEEEEEEEEEEEEEEEEEEEEEE");
            CHECK.due("made anew", x.text(1, n), n);
            for (int i = 0; i < n; i++) {
                CHECK.due("byte " + i + " of " + n, x.put(1, i, 69), 1032);
            }
        }
        CHECK.quote(6, "The mean of a ROW's ints, cut, told by asked(): 1.");
        CHECK.row(x, 2, -7, 0);
        CHECK.asked(x, "of -7, 0", x.mean(2), -3);
        CHECK.row(x, 2, 7, 0);
        CHECK.asked(x, "of 7, 0", x.mean(2), 3);
        CHECK.row(x, 2, 5, 6, 6);
        CHECK.asked(x, "of 5, 6, 6", x.mean(2), 5);
        CHECK.row(x, 2, -5, -6, -6);
        CHECK.asked(x, "of -5, -6, -6", x.mean(2), -5);
    }

    private static void cellsByXAndY() {
        CHECK.quote(0, "CELLS 0 .. 63 are 8 by 8: x is the CELL modulo 8, y it by 8, cut.");
        IceBoats x = Fleet.only(0);
        for (int a = 0; a < 64; a++) {
            int due = a % 8 + a / 8;
            CHECK.due("steps from CELL 0 to " + a, x.time(0, a), due);
            x.boat(0, 0, a, 1000);
            x.row(0, 1);
            x.row(1, 2);
            x.lay(1, 0, 1);
            x.lay(1, 1, a);
            CHECK.due("WAY 0 from " + a + " leads there", x.courses(a, 0, 1), 2);
        }
    }

    private static void nextCells() {
        CHECK.quote(0, "WAYS: 0 stay, 1 to lesser y, 2 to lesser x, 3 to greater x, 4 to greater y.");
        int[] to = {27, 19, 26, 28, 35};
        for (int way = 0; way < 5; way++) {
            IceBoats x = Fleet.only(27);
            x.go(0, way);
            x.tick();
            CHECK.due("WAY " + way, Fleet.cell(x, 0), to[way]);
            CHECK.due("COULD by WAY " + way, Fleet.could(x, 0), 1L << to[way]);
        }
        CHECK.quote(0, "From a CELL a WAY leads to the next one; it stays, if that would be without the sea, or ROCK.");
        for (int way = 0; way < 5; way++) {
            for (int c = 0; c < 64; c++) {
                int x = c % 8 + (way == 2 ? -1 : way == 3 ? 1 : 0);
                int y = c / 8 + (way == 1 ? -1 : way == 4 ? 1 : 0);
                boolean in = x >= 0 && x < 8 && y >= 0 && y < 8;
                int due = in ? 8 * y + x : c;
                CHECK.due("WAY " + way + " from " + c, ledTo(c, way, NONE), due);
                if (in && way != 0) {
                    CHECK.due("WAY " + way + " from " + c + " before ROCK", ledTo(c, way, due), c);
                }
            }
        }
    }

    // THE HOLE and all BOATS but one are where no ROCK is put.
    private static int ledTo(int from, int way, int rock) {
        IceBoats x = new IceBoats();
        for (int b = 0; b < 6; b++) {
            x.boat(b, 0, from, 100);
        }
        x.hole(from);
        if (rock != NONE) {
            x.rock(rock, true);
        }
        x.go(0, way);
        x.tick();
        return Fleet.cell(x, 0);
    }

    private static void whatACellHas() {
        CHECK.quote(0, "A CELL is ROCK or not (at first), has a CURRENT (a WAY; 0 at first), a WARMTH (1 .. 4; 1 at first), ICE above it (0 .. 9; 0 at first).");
        IceBoats fresh = new IceBoats();
        int[] first = {0, 0, 1, 0, NONE};
        for (int c = 0; c < 64; c++) {
            for (int what = 0; what < 5; what++) {
                CHECK.asked(fresh, "at first, sea(" + c + ", " + what + ")", fresh.sea(c, what), first[what]);
            }
        }
        for (int v = -1; v <= 10; v++) {
            CHECK.due("CURRENT " + v, fresh.cell(3, v, 1, 0), v >= 0 && v <= 4 ? 1 : -1);
            CHECK.due("WARMTH " + v, fresh.cell(3, 0, v, 0), v >= 1 && v <= 4 ? 1 : -1);
            CHECK.due("ICE " + v, fresh.cell(3, 0, 1, v), v >= 0 && v <= 9 ? 1 : -1);
            CHECK.due("ICE " + v + " of the CHART", fresh.chart(3, v), v >= 0 && v <= 9 ? 1 : -1);
        }
        CHECK.quote(10, "CURRENT, WARMTH, ICE of a CELL: 1.");
        IceBoats x = new IceBoats();
        CHECK.due("cell()", x.cell(5, 1, 2, 3), 1);
        for (int c = 0; c < 64; c++) {
            int[] due = c == 5 ? new int[] {0, 1, 2, 3, NONE} : new int[] {0, 0, 1, 0, NONE};
            for (int what = 0; what < 5; what++) {
                CHECK.asked(x, "sea(" + c + ", " + what + ")", x.sea(c, what), due[what]);
            }
        }
        CHECK.due("anew", x.cell(5, 4, 4, 9), 1);
        int[] due = {0, 4, 4, 9, NONE};
        for (int what = 0; what < 5; what++) {
            CHECK.asked(x, "anew, " + what, x.sea(5, what), due[what]);
        }
    }

    private static void rockKeepsTheRest() {
        CHECK.quote(9, "A CELL becomes ROCK, or none: 1 if it was, else 0.");
        IceBoats x = new IceBoats();
        x.cell(9, 3, 4, 7);
        x.chart(9, 6);
        x.rock(9, true);
        int[] due = {1, 3, 4, 7, 6};
        for (int what = 0; what < 5; what++) {
            CHECK.asked(x, "as ROCK, sea(9, " + what + ")", x.sea(9, what), due[what]);
        }
        x.rock(9, false);
        due[0] = 0;
        for (int what = 0; what < 5; what++) {
            CHECK.asked(x, "as none, sea(9, " + what + ")", x.sea(9, what), due[what]);
        }
        CHECK.due("TIME into it by its WARMTH", x.time(8, 9), 4);
        CHECK.quote(10, "CURRENT, WARMTH, ICE of a CELL: 1.");
        x.rock(9, true);
        CHECK.due("of ROCK", x.cell(9, 2, 3, 5), 1);
        CHECK.asked(x, "still ROCK", x.sea(9, 0), 1);
        x.rock(9, false);
        CHECK.due("TIME by the WARMTH that it got as ROCK", x.time(8, 9), 3);
        CHECK.due("TIME out of it", x.time(9, 8), 1);
        x.boat(0, 0, 9, 100);
        x.seed(Fleet.seedFor("1"));
        x.tick();
        CHECK.due("carried by the CURRENT that it got as ROCK", Fleet.cell(x, 0), 8);
    }

    private static void rockInCould() {
        CHECK.quote(9, "STATE: a BOAT, THE HOLE is there, as it becomes ROCK.");
        IceBoats x = Fleet.only(9);
        x.cell(9, 3, 1, 0);
        x.cell(10, 4, 1, 0);
        x.seed(Fleet.seedFor("1"));
        x.tick();
        CHECK.due("it is in 10", Fleet.cell(x, 0), 10);
        CHECK.due("COULD be in 9", Fleet.could(x, 0), Fleet.cells(9, 10));
        CHECK.state(x, "where it is", () -> x.rock(10, true));
        CHECK.due("where it only COULD be", x.rock(9, true), 0);
        CHECK.due("COULD stays", Fleet.could(x, 0), Fleet.cells(9, 10));
        CHECK.quote(0, "COULD becomes all CELLS to which its WAY and then the CURRENT, or none, lead from one of COULD");
        x.seed(Fleet.seedFor("0"));
        x.tick();
        CHECK.due("from 9, be it ROCK now: there, and to 10; from 10: there, and to 18", Fleet.could(x, 0), Fleet.cells(9, 10, 18));
        IceBoats y = Fleet.only(9);
        y.cell(9, 3, 1, 0);
        y.seed(Fleet.seedFor("1"));
        y.tick();
        y.rock(9, true);
        y.go(0, 2);
        y.tick();
        CHECK.due("from 9 to 8; from 10 not into ROCK", Fleet.could(y, 0), Fleet.cells(8, 10));
        CHECK.due("it is in 10", Fleet.cell(y, 0), 10);
    }

    private static void chartOfAnyCell() {
        CHECK.quote(12, "The CHART tells ICE of a CELL (NONE: nothing): 1.");
        IceBoats x = new IceBoats();
        x.rock(20, true);
        CHECK.due("of ROCK", x.chart(20, 4), 1);
        CHECK.asked(x, "of ROCK", x.sea(20, 4), 4);
        CHECK.due("of THE HOLE, where BOATS are", x.chart(0, 9), 1);
        CHECK.asked(x, "of THE HOLE", x.sea(0, 4), 9);
        CHECK.due("nothing", x.chart(20, NONE), 1);
        CHECK.asked(x, "nothing", x.sea(20, 4), NONE);
        CHECK.asked(x, "of others as it was", x.sea(0, 4), 9);
        CHECK.asked(x, "of others none", x.sea(21, 4), NONE);
    }

    private static void iceAndChartAreTwo() {
        CHECK.quote(11, "4 what the CHART tells (NONE), told by asked(): 1.");
        IceBoats x = new IceBoats();
        x.cell(30, 0, 1, 5);
        CHECK.asked(x, "ICE is not charted by itself", x.sea(30, 4), NONE);
        x.chart(30, 8);
        CHECK.asked(x, "ICE is not as the CHART tells", x.sea(30, 3), 5);
        x.cell(30, 0, 1, 6);
        CHECK.asked(x, "the CHART stays as ICE changes", x.sea(30, 4), 8);
        x.boat(0, 0, 30, 100);
        x.look(0);
        CHECK.asked(x, "the CHART stays by a LOOK", x.sea(30, 4), 8);
        CHECK.asked(x, "a LOOK is of the true ICE", x.looked(0, 1), 6);
    }

    private static void holes() {
        CHECK.quote(13, "THE HOLE is in a CELL: where it was.");
        IceBoats x = new IceBoats();
        x.boat(3, 0, 44, 100);
        CHECK.due("0 at first", x.hole(44), 0);
        CHECK.due("where a BOAT is", x.hole(44), 44);
        CHECK.due("home", x.home(3), 1);
        CHECK.due("the same BOAT's CELL", x.hole(1), 44);
        CHECK.due("HOME stays", Fleet.told(x, 3, 0), Fleet.HOME);
        CHECK.quote(0, "THE HOLE is a CELL (0 at first), not ROCK.");
        CHECK.state(x, "no ROCK there", () -> x.rock(1, true));
        x.rock(2, true);
        CHECK.state(x, "nor THE HOLE in ROCK", () -> x.hole(2));
        x.rock(2, false);
        CHECK.due("ROCK no more", x.hole(2), 1);
        CHECK.due("where it was may be ROCK", x.rock(1, true), 0);
    }

    private static void seeds() {
        CHECK.quote(14, "LOTS begin with l: 1.");
        for (int l : new int[] {0, 1, -1, 7, Integer.MIN_VALUE, Integer.MAX_VALUE}) {
            IceBoats x = Fleet.only(0);
            Fleet.currents(x, 3);
            CHECK.due("seed(" + l + ")", x.seed(l), 1);
            Fleet.Lots lots = new Fleet.Lots(l);
            for (int i = 0; i < 40; i++) {
                x.boat(0, 0, 8, 100);
                x.tick();
                CHECK.due("seed(" + l + "), LOT " + i, Fleet.cell(x, 0), lots.carries() ? 9 : 8);
            }
        }
    }
}
