/** Promises 25 to 31: sound, words, who KNOWS. */
final class WordsTest {
    private static final Check CHECK = new Check("words");
    private static final int NONE = IceBoats.NONE, MET = -10, NEVER = -11, DEAF = -12;

    public static void main(String[] args) {
        times();
        wrongNumbers();
        refusedWords();
        wordsAreFull();
        told();
        tellings();
        comings();
        meetings();
        notAble();
        farWords();
        farBySeaAsHeard();
        seenWords();
        wishes();
        meets();
        leaves();
        knowing();
        allKnowing();
        CHECK.end();
    }

    private static void times() {
        IceBoats x = new IceBoats();
        CHECK.due("a CELL and itself", x.time(27, 27), 0);
        CHECK.due("corner to corner", x.time(0, 63), 14);
        CHECK.due("no way around the side", x.time(7, 8), 8);
        x.cell(1, 0, 4, 0);
        CHECK.due("WARMTH of what it enters", x.time(0, 1), 4);
        CHECK.due("and not of where it is from", x.time(1, 0), 1);
        CHECK.due("around what is warm", x.time(0, 2), 4);
        x.cell(9, 0, 3, 0);
        CHECK.due("through what is warm", x.time(0, 2), 5);
        CHECK.refused(x, "time(-1, 0)", () -> x.time(-1, 0), IceBoats.BAD);
        CHECK.refused(x, "time(0, 64)", () -> x.time(0, 64), IceBoats.BAD);
        x.rock(62, true);
        CHECK.refused(x, "from ROCK", () -> x.time(62, 0), IceBoats.BAD);
        CHECK.refused(x, "to ROCK", () -> x.time(0, 62), IceBoats.BAD);
        CHECK.refused(x, "of ROCK to itself", () -> x.time(62, 62), IceBoats.BAD);
        x.rock(55, true);
        CHECK.found(x, "no way", () -> x.time(0, 63), Check.NOTHING);
        CHECK.found(x, "no way back", () -> x.time(63, 0), Check.NOTHING);
        CHECK.due("within the rocks", x.time(63, 63), 0);
        x.rock(55, false);
        CHECK.due("a way again", x.time(0, 63), 14);
        longestTime();
    }

    // A sea of one long winding way, all of WARMTH 4
    private static void longestTime() {
        IceBoats x = new IceBoats();
        for (int c = 0; c < 64; c++) {
            x.cell(c, 0, 4, 0);
            boolean wall = c / 8 % 2 == 1 && c % 8 != (c / 8 % 4 == 1 ? 7 : 0);
            if (wall) {
                x.rock(c, true);
            }
        }
        CHECK.due("the long way", x.time(0, 48), 4 * (8 * 4 - 1 + 3));
    }

    private static void wrongNumbers() {
        IceBoats x = new IceBoats();
        CHECK.refused(x, "say(6, 0, 0)", () -> x.say(6, 0, 0), IceBoats.BAD);
        CHECK.refused(x, "say(-1, 0, 0)", () -> x.say(-1, 0, 0), IceBoats.BAD);
        CHECK.refused(x, "KIND 6", () -> x.say(0, 6, 0), IceBoats.BAD);
        CHECK.refused(x, "KIND -1", () -> x.say(0, -1, 0), IceBoats.BAD);
        CHECK.refused(x, "no such LOOK", () -> x.say(0, 2, 0), IceBoats.BAD);
        CHECK.refused(x, "LOOK -1", () -> x.say(0, 2, -1), IceBoats.BAD);
        CHECK.refused(x, "WAY 5", () -> x.say(0, 3, 5), IceBoats.BAD);
        CHECK.refused(x, "WAY -1", () -> x.say(0, 3, -1), IceBoats.BAD);
        CHECK.refused(x, "CELL 64", () -> x.say(0, 4, 64), IceBoats.BAD);
        CHECK.refused(x, "CELL -1", () -> x.say(0, 4, -1), IceBoats.BAD);
        for (int w : new int[] {-1, 0, 40, NONE, Integer.MAX_VALUE, Integer.MIN_VALUE}) {
            CHECK.refused(x, "word(" + w + ", 0)", () -> x.word(w, 0), IceBoats.BAD);
            CHECK.refused(x, "tells(" + w + ", 1)", () -> x.tells(w, 1), IceBoats.BAD);
            CHECK.refused(x, "heard(" + w + ", 0)", () -> x.heard(w, 0), IceBoats.BAD);
            CHECK.refused(x, "knows(" + w + ", ..)", () -> x.knows(w, 0, NONE, NONE), IceBoats.BAD);
            CHECK.refused(x, "allKnow(" + w + ", ..)", () -> x.allKnow(w, 1, 1), IceBoats.BAD);
        }
        x.say(0, 3, 0);
        CHECK.refused(x, "word(0, 4)", () -> x.word(0, 4), IceBoats.BAD);
        CHECK.refused(x, "word(0, -1)", () -> x.word(0, -1), IceBoats.BAD);
        CHECK.refused(x, "tells(0, 0)", () -> x.tells(0, 0), IceBoats.BAD);
        CHECK.refused(x, "tells(0, 6)", () -> x.tells(0, 6), IceBoats.BAD);
        CHECK.refused(x, "heard(0, 6)", () -> x.heard(0, 6), IceBoats.BAD);
        CHECK.refused(x, "heard(0, -1)", () -> x.heard(0, -1), IceBoats.BAD);
        CHECK.refused(x, "a 6", () -> x.knows(0, 6, NONE, NONE), IceBoats.BAD);
        CHECK.refused(x, "a NONE", () -> x.knows(0, NONE, NONE, NONE), IceBoats.BAD);
        CHECK.refused(x, "b 6", () -> x.knows(0, 0, 6, NONE), IceBoats.BAD);
        CHECK.refused(x, "b -1", () -> x.knows(0, 0, -1, NONE), IceBoats.BAD);
        CHECK.refused(x, "c 6", () -> x.knows(0, 0, 1, 6), IceBoats.BAD);
        CHECK.refused(x, "b NONE, c not", () -> x.knows(0, 0, NONE, 1), IceBoats.BAD);
        CHECK.refused(x, "no BOATS", () -> x.allKnow(0, 0, 1), IceBoats.BAD);
        CHECK.refused(x, "bits 64", () -> x.allKnow(0, 64, 1), IceBoats.BAD);
        CHECK.refused(x, "bits -1", () -> x.allKnow(0, -1, 1), IceBoats.BAD);
        CHECK.refused(x, "deep 0", () -> x.allKnow(0, 1, 0), IceBoats.BAD);
        CHECK.refused(x, "deep 4", () -> x.allKnow(0, 1, 4), IceBoats.BAD);
    }

    private static void refusedWords() {
        IceBoats x = new IceBoats();
        x.boat(0, 0, 0, 2);
        x.boat(1, 0, 0, 3);
        x.home(5);
        CHECK.refused(x, "POWER 2", () -> x.say(0, 0, 0), IceBoats.STATE);
        CHECK.refused(x, "POWER 2, no LOOK", () -> x.say(0, 2, 0), IceBoats.BAD);
        CHECK.due("POWER 3", x.say(1, 0, 0), 0);
        CHECK.asked(x, "takes 3", x.told(1, 2), 0);
        CHECK.refused(x, "HOME", () -> x.say(5, 0, 0), IceBoats.STATE);
        CHECK.due("another one", x.say(2, 0, 0), 1);
        CHECK.refused(x, "said one", () -> x.say(2, 0, 0), IceBoats.STATE);
        x.look(2);
        CHECK.refused(x, "not HELD", () -> x.say(3, 2, 0), IceBoats.STATE);
        x.tick();
        CHECK.due("in the next TICK", x.say(2, 2, 0), 2);
    }

    private static void wordsAreFull() {
        IceBoats x = new IceBoats();
        for (int w = 0; w < 40; w++) {
            if (w % 5 == 0) {
                x.tick();
            }
            CHECK.due("word " + w, x.say(w % 5, w % 2, 0), w);
        }
        x.boat(4, 0, 0, 2);
        CHECK.refused(x, "a word more", () -> x.say(5, 0, 0), IceBoats.FULL);
        CHECK.refused(x, "FULL behind STATE", () -> x.say(0, 0, 0), IceBoats.STATE);
        CHECK.refused(x, "FULL behind BAD", () -> x.say(5, 7, 0), IceBoats.BAD);
        x.tick();
        CHECK.refused(x, "FULL behind lack of POWER", () -> x.say(4, 0, 0), IceBoats.STATE);
        CHECK.refused(x, "FULL", () -> x.say(0, 0, 0), IceBoats.FULL);
        CHECK.due("words", x.count(2), 40);
    }

    private static void told() {
        IceBoats x = new IceBoats();
        x.look(2);
        CHECK.ticks(x, 3);
        x.look(2);
        int[][] said = {{0, 77, 0}, {1, -5, 0}, {2, 1, 1}, {3, 4, 4}, {4, 63, 63}, {5, 9, 0}};
        for (int k = 0; k < 6; k++) {
            CHECK.due("say of KIND " + k, x.say(2, said[k][0], said[k][1]), k);
            CHECK.asked(x, "KIND", x.word(k, 0), k);
            CHECK.asked(x, "who", x.word(k, 1), 2);
            CHECK.asked(x, "when", x.word(k, 2), 3 + k);
            CHECK.asked(x, "v", x.word(k, 3), said[k][2]);
            x.tick();
        }
    }

    private static void tellings() {
        IceBoats x = new IceBoats();
        x.cell(0, 0, 1, 6);
        x.tick();
        x.look(0);
        int[] kinds = {0, 1, 2, 3, 4, 5};
        for (int k : kinds) {
            x.say(0, k, k == 4 ? 50 : 0);
            for (int by = 1; by <= 5; by++) {
                int asked = by;
                if (k != by && !(by == 3 && k > 3)) {
                    CHECK.found(x, "KIND " + k + " as " + by, () -> x.tells(k, asked), Check.UNLIKE);
                }
            }
            x.boat(0, 0, 0, 100);
            x.cell(0, 0, 1, 3);
            x.tick();
        }
        x.cell(0, 3, 1, 3);
        CHECK.due("a FAR one, from one CELL", x.tells(1, 1), 1);
        CHECK.due("a SEEN one", x.tells(2, 2), 6);
        CHECK.due("a WISH", x.tells(3, 3) >= 1 ? 1 : 0, 1);
        CHECK.due("a MEET one", x.tells(4, 4), 50);
        CHECK.due("a LEAVE one, in THE HOLE", x.tells(5, 5), 0);
        x.hole(21);
        CHECK.due("a LEAVE one, THE HOLE elsewhere", x.tells(5, 5), 7);
        x.boat(0, 0, 63, 100);
        CHECK.due("a LEAVE one, the sayer elsewhere", x.tells(5, 5), 7);
        x.boat(0, 0, 0, 100);
        x.tick();
        x.say(0, 1, 0);
        CHECK.due("a FAR one, from two CELLS", x.tells(6, 1), 2);
        x.boat(0, 0, 9, 9);
        CHECK.due("as it said it", x.tells(6, 1), 2);
    }

    // A row of BOATS, each farther off than the one before
    private static void comings() {
        IceBoats x = new IceBoats();
        x.boat(0, 0, 0, 100);
        x.boat(1, 0, 0, 100);
        x.boat(2, 0, 1, 100);
        x.boat(3, 0, 8 + 4, 100);
        x.boat(4, 0, 7 + 8 * 5, 100);
        x.boat(5, 0, 7 + 8 * 6, 100);
        CHECK.ticks(x, 2);
        x.say(0, 0, 0);
        int[] due = {NEVER, 3, 3, 7, 14, NEVER};
        for (int t = 3; t <= 15; t++) {
            int heard = 0;
            for (int b = 0; b < 6; b++) {
                heard += due[b] == t ? 1 : 0;
            }
            CHECK.due("HEARD in TICK " + t, x.tick(), heard);
            for (int b = 0; b < 6; b++) {
                CHECK.due("TICK " + t + " heard(0, " + b + ")", x.heard(0, b), due[b] > t ? NONE : due[b]);
            }
        }
        CHECK.asked(x, "heard last", x.told(3, 5), 7);
        CHECK.asked(x, "heard none", x.told(5, 5), 0);
        CHECK.due("WORD tells none", x.tells(0, 1), IceBoats.FINDING);
        movedOn();
        noWayForIt();
    }

    // What counts is where both were as it was said
    private static void movedOn() {
        IceBoats x = new IceBoats();
        x.boat(0, 0, 0, 100);
        x.boat(1, 0, 3, 100);
        x.say(0, 0, 0);
        x.boat(1, 0, 63, 100);
        x.boat(0, 0, 62, 100);
        for (int c = 1; c < 8; c++) {
            x.rock(c, true);
        }
        CHECK.ticks(x, 2);
        CHECK.due("not yet", x.heard(0, 1), NONE);
        x.tick();
        CHECK.due("as far as it was", x.heard(0, 1), 3);
    }

    private static void noWayForIt() {
        IceBoats x = new IceBoats();
        x.boat(1, 0, 63, 100);
        x.boat(2, 0, 9, 100);
        x.rock(62, true);
        x.rock(55, true);
        x.say(1, 0, 0);
        for (int b = 0; b < 6; b++) {
            CHECK.due("no way to " + b, x.heard(0, b), NEVER);
        }
        x.cell(1, 0, 4, 0);
        x.cell(8, 0, 4, 0);
        x.say(2, 0, 0);
        CHECK.ticks(x, 4);
        CHECK.due("by WARMTH, not yet", x.heard(1, 0), NONE);
        x.tick();
        CHECK.due("by WARMTH", x.heard(1, 0), 5);
    }

    private static void meetings() {
        IceBoats x = new IceBoats();
        x.boat(0, 0, 0, 100);
        x.boat(1, 0, 4, 100);
        x.boat(2, 0, 2, 100);
        x.boat(3, 0, 1, 100);
        x.boat(4, 0, 63, 100);
        x.boat(5, 0, 62, 100);
        x.look(0);
        x.say(0, 2, 0);
        x.say(1, 0, 0);
        CHECK.due("one each at most", x.tick(), 1);
        CHECK.due("word 0 by 3", x.heard(0, 3), 1);
        CHECK.due("none by 2 yet", x.tick(), 0);
        CHECK.due("word 0 MET at 2", x.heard(0, 2), MET);
        CHECK.due("word 1 MET at 2", x.heard(1, 2), MET);
        CHECK.asked(x, "2 HOLDS none", x.told(2, 4), 0);
        CHECK.asked(x, "2 heard none", x.told(2, 5), 0);
        CHECK.due("word 1 by 3 at 3", x.tick(), 1);
        CHECK.due("word 0 by 1, word 1 by 0", x.tick(), 2);
        CHECK.due("word 1 by 3", x.heard(1, 3), 3);
        IceBoats y = new IceBoats();
        for (int b = 0; b < 4; b++) {
            y.say(b, 0, 0);
        }
        CHECK.due("three and four met", y.tick(), 0);
        for (int w = 0; w < 4; w++) {
            for (int b = 0; b < 6; b++) {
                CHECK.due("heard(" + w + ", " + b + ")", y.heard(w, b), w == b ? NEVER : MET);
            }
        }
        y.say(0, 0, 0);
        CHECK.due("heard again", y.tick(), 5);
    }

    private static void notAble() {
        IceBoats x = new IceBoats();
        for (int b = 1; b < 6; b++) {
            x.boat(b, 0, 3, 100);
        }
        x.boat(5, 0, 3, 0);
        x.tick();
        x.say(0, 0, 0);
        CHECK.due("DEAD as it was said", x.heard(0, 5), NEVER);
        x.hole(3);
        x.home(4);
        x.boat(5, 0, 3, 9);
        x.boat(3, 0, 3, 0);
        CHECK.ticks(x, 1);
        x.boat(2, 0, 3, 0);
        CHECK.ticks(x, 1);
        x.boat(3, 0, 60, 9);
        CHECK.due("HEARD by 1 and 3", x.tick(), 2);
        CHECK.due("ABLE", x.heard(0, 1), 4);
        CHECK.due("DEAD as it came", x.heard(0, 2), DEAF);
        CHECK.due("DEAD and again let down", x.heard(0, 3), 4);
        CHECK.due("HOME as it came", x.heard(0, 4), DEAF);
        CHECK.due("let down behind it", x.heard(0, 5), NEVER);
        lastHearing();
        metByOneNotAble();
    }

    // POWER 0 is looked at behind the hearing
    private static void lastHearing() {
        IceBoats x = new IceBoats();
        x.boat(1, 0, 0, 0);
        x.say(0, 0, 0);
        x.tick();
        CHECK.due("HEARD, then DEAD", x.heard(0, 1), 1);
        CHECK.asked(x, "KIND", x.told(1, 0), 5);
    }

    private static void metByOneNotAble() {
        IceBoats x = new IceBoats();
        x.say(0, 0, 0);
        x.say(1, 0, 0);
        x.home(2);
        CHECK.due("each by the other", x.tick(), 2);
        CHECK.due("two that come are MET, ABLE or not", x.heard(0, 2), MET);
        CHECK.due("both", x.heard(1, 2), MET);
    }

    private static void farWords() {
        IceBoats x = new IceBoats();
        for (int c = 0; c < 8; c++) {
            x.cell(c, 3, 1, 0);
        }
        x.boat(1, 0, 0, 100);
        CHECK.ticks(x, 4);
        x.boat(0, 0, 0, 100);
        x.could(1);
        CHECK.due("COULD of 1", x.set(), 0x1FL);
        x.told(1, 1);
        int at = x.asked();
        x.cell(at, 0, 1, 0);
        x.say(0, 1, 0);
        for (int c = 0; c < 8; c++) {
            x.cell(c, 0, 1, 0);
        }
        CHECK.ticks(x, at == 0 ? 1 : at);
        x.could(1);
        CHECK.due("just where it is", x.set(), 1L << at);
        CHECK.due("HEARD by now", x.heard(0, 1), 4 + Math.max(at, 1));
        sameCell();
        notBack();
        noneLeft();
        manySources();
    }

    private static void sameCell() {
        IceBoats x = new IceBoats();
        x.cell(0, 3, 1, 0);
        x.cell(1, 3, 1, 0);
        x.seed(0);
        CHECK.ticks(x, 3);
        x.boat(0, 3, 0, 100);
        x.boat(1, 3, 0, 100);
        x.cell(0, 0, 1, 0);
        x.cell(1, 0, 1, 0);
        x.could(2);
        CHECK.due("COULD ahead", x.set(), 0x7L);
        x.boat(3, 3, 63, 9);
        x.told(2, 1);
        int at = x.asked();
        x.boat(0, 3, at, 100);
        x.say(0, 1, 0);
        x.tick();
        x.could(2);
        long beside = (1L << at | 1L << at + 1 | (at == 0 ? 0 : 1L << at - 1)) & 0x7L;
        CHECK.due("took 1: TIME 1, or 0", x.set(), beside);
    }

    // A sound does not come back to where it is from
    private static void notBack() {
        IceBoats y = new IceBoats();
        y.cell(0, 3, 1, 0);
        y.cell(1, 3, 1, 0);
        int l = 1;
        while (!twiceCarried(l)) {
            l++;
        }
        y.seed(l);
        for (int b = 1; b < 6; b++) {
            y.boat(b, 3, 63, 100);
        }
        CHECK.ticks(y, 2);
        CHECK.asked(y, "carried twice", y.told(0, 1), 2);
        y.boat(1, 3, 0, 100);
        y.cell(0, 0, 1, 0);
        y.cell(1, 0, 1, 0);
        y.say(1, 1, 0);
        CHECK.ticks(y, 2);
        CHECK.due("HEARD", y.heard(0, 0), 4);
        y.could(0);
        CHECK.due("just 2, not 0 again", y.set(), 4);
    }

    private static boolean twiceCarried(int l) {
        int one = l * 1103515245 + 12345;
        int two = one * 1103515245 + 12345;
        return (one >>> 16 & 0x7FFF) % 4 != 0 && (two >>> 16 & 0x7FFF) % 4 != 0;
    }

    // What the word tells does not fit: COULD stays
    private static void noneLeft() {
        IceBoats x = new IceBoats();
        x.boat(0, 0, 0, 100);
        x.boat(1, 0, 2, 100);
        x.say(0, 1, 0);
        x.boat(1, 0, 40, 100);
        CHECK.ticks(x, 2);
        CHECK.due("HEARD", x.heard(0, 1), 2);
        x.could(1);
        CHECK.due("COULD stays", x.set(), 1L << 40);
    }

    private static void manySources() {
        IceBoats x = new IceBoats();
        for (int c = 0; c < 64; c++) {
            x.cell(c, 3, 1, 0);
        }
        x.boat(0, 0, 16, 100);
        x.boat(1, 0, 35, 100);
        CHECK.ticks(x, 2);
        for (int c = 0; c < 64; c++) {
            x.cell(c, 0, 1, 0);
        }
        x.could(0);
        CHECK.due("of the sayer", x.set(), 0x7L << 16);
        x.told(0, 1);
        int from = x.asked();
        x.told(1, 1);
        int to = x.asked();
        x.say(0, 1, 0);
        int took = x.time(from, to);
        long due = 0;
        for (int c = 35; c <= 37; c++) {
            for (int s = 16; s <= 18; s++) {
                due |= x.time(s, c) == took ? 1L << c : 0;
            }
        }
        x.boat(0, 0, 63, 1);
        CHECK.ticks(x, took);
        CHECK.due("HEARD", x.heard(0, 1), 2 + took);
        x.could(1);
        CHECK.due("from any CELL of the sayer's COULD as it said it", x.set(), due);
    }

    // TIME is by the sea as the word is heard
    private static void farBySeaAsHeard() {
        IceBoats x = new IceBoats();
        x.cell(2, 3, 1, 0);
        x.boat(0, 0, 0, 100);
        x.boat(1, 0, 2, 100);
        x.tick();
        x.cell(2, 0, 1, 0);
        x.could(1);
        CHECK.due("COULD ahead", x.set(), 0xCL);
        x.told(1, 1);
        boolean carried = x.asked() == 3;
        x.say(0, 1, 0);
        x.tick();
        // makes 2 as far as 3 was, or 3 as far as 4 would be, so that the other one is left
        if (carried) {
            x.cell(2, 0, 2, 0);
            x.cell(3, 0, 4, 0);
            x.rock(11, true);
        } else {
            x.cell(2, 0, 4, 0);
            x.rock(10, true);
        }
        CHECK.ticks(x, carried ? 2 : 1);
        CHECK.due("HEARD", x.heard(0, 1), carried ? 4 : 3);
        x.could(1);
        CHECK.due("by the sea as it is then", x.set(), carried ? 1L << 2 : 0xCL);
    }

    private static void seenWords() {
        IceBoats x = new IceBoats();
        x.boat(0, 0, 9, 100);
        x.look(0);
        x.boat(1, 0, 10, 100);
        x.boat(2, 0, 12, 100);
        x.boat(3, 0, 63, 100);
        x.say(0, 2, 0);
        x.tick();
        CHECK.asked(x, "HELD by 0, 1", x.looked(0, 2), 3);
        x.tick();
        CHECK.asked(x, "and by 4, 5", x.looked(0, 2), 51);
        x.tick();
        CHECK.asked(x, "and by 2", x.looked(0, 2), 55);
        CHECK.asked(x, "3 HOLDS none yet", x.told(3, 4), 0);
        x.tick();
        CHECK.due("told on by 2", x.say(2, 2, 0), 1);
        x.boat(3, 0, 55, 100);
        CHECK.ticks(x, 8);
        CHECK.asked(x, "HELD by 3 as it hears the first one", x.looked(0, 2), 63);
        CHECK.due("which is the first one", x.heard(0, 3), 12);
        CHECK.due("the other one comes yet", x.heard(1, 3), NONE);
    }

    private static void wishes() {
        IceBoats x = new IceBoats();
        x.boat(0, 0, 0, 100);
        x.boat(1, 0, 9, 100);
        x.boat(2, 0, 9, 100);
        x.boat(3, 0, 9, 100);
        x.boat(4, 3, 9, 100);
        x.boat(5, 0, 9, 1);
        x.say(0, 3, 4);
        x.go(1, 3);
        CHECK.ticks(x, 2);
        CHECK.asked(x, "1 went as it was told", x.told(1, 1), 10);
        CHECK.asked(x, "2 not yet", x.told(2, 1), 9);
        x.go(3, 1);
        x.tick();
        CHECK.asked(x, "1 as wished", x.told(1, 1), 18);
        CHECK.asked(x, "2 as wished", x.told(2, 1), 17);
        CHECK.asked(x, "2 gave POWER for it", x.told(2, 2), 98);
        CHECK.asked(x, "3 as it was told", x.told(3, 1), 1);
        CHECK.asked(x, "an ANCHOR stays", x.told(4, 1), 9);
        CHECK.asked(x, "5 has too little", x.told(5, 1), 9);
        x.tick();
        CHECK.asked(x, "a WISH is for one TICK", x.told(2, 1), 17);
        CHECK.due("how many HEARD it", x.tells(0, 3), 5);
        IceBoats y = new IceBoats();
        y.say(5, 3, 0);
        y.tick();
        CHECK.due("0 to 4 HEARD it", y.tells(0, 3), 5);
        x.say(0, 3, 1);
        CHECK.ticks(x, 2);
        x.boat(5, 0, 9, 100);
        x.tick();
        CHECK.asked(x, "let down behind it: told no WAY", x.told(5, 1), 9);
    }

    private static void meets() {
        IceBoats x = new IceBoats();
        int[][] runs = {{27, 0, 19}, {27, 63, 28}, {27, 31, 28}, {27, 24, 26}, {27, 59, 35}, {27, 27, 27}, {27, 48, 26}};
        for (int[] run : runs) {
            x.boat(0, 0, 27, 100);
            x.boat(1, 0, run[0], 100);
            x.say(0, 4, run[1]);
            CHECK.ticks(x, 2);
            CHECK.asked(x, "MEET in " + run[1] + " from " + run[0], x.told(1, 1), run[2]);
        }
        x.rock(19, true);
        x.boat(0, 0, 27, 100);
        x.boat(1, 0, 27, 100);
        x.say(0, 4, 0);
        CHECK.ticks(x, 2);
        CHECK.asked(x, "the first that leads on", x.told(1, 1), 26);
        x.boat(1, 0, 27, 100);
        x.say(0, 4, 3);
        CHECK.ticks(x, 2);
        CHECK.asked(x, "none comes nearer", x.told(1, 1), 27);
        CHECK.asked(x, "and takes none", x.told(1, 2), 100);
        leastOfCould();
    }

    // It goes by the least CELL where it could be, not by the true one
    private static void leastOfCould() {
        IceBoats x = new IceBoats();
        x.cell(0, 3, 1, 0);
        int l = 1;
        while ((l * 1103515245 + 12345 >>> 16 & 0x7FFF) % 4 == 0) {
            l++;
        }
        x.seed(l);
        x.boat(0, 0, 0, 100);
        x.boat(1, 0, 1, 100);
        x.tick();
        CHECK.asked(x, "0 was carried", x.told(0, 1), 1);
        x.cell(0, 0, 1, 0);
        x.say(1, 4, 1);
        x.tick();
        x.go(1, 0);
        x.tick();
        CHECK.asked(x, "from 0 it would be 3", x.told(0, 1), 2);
    }

    private static void leaves() {
        IceBoats x = new IceBoats();
        x.hole(63);
        x.boat(0, 0, 27, 100);
        x.boat(1, 0, 27, 100);
        x.boat(2, 0, 26, 100);
        x.say(0, 5, 0);
        x.hole(24);
        x.tick();
        x.hole(63);
        CHECK.ticks(x, 1);
        CHECK.asked(x, "to THE HOLE as it was heard", x.told(1, 1), 26);
        x.hole(27);
        x.boat(2, 0, 26, 100);
        x.boat(3, 0, 27, 100);
        x.say(0, 5, 0);
        CHECK.ticks(x, 2);
        CHECK.asked(x, "there already", x.told(3, 1), 27);
        CHECK.asked(x, "from beside", x.told(2, 1), 27);
    }

    private static void knowing() {
        IceBoats x = new IceBoats();
        x.boat(0, 0, 0, 100);
        x.boat(1, 0, 2, 100);
        x.boat(2, 0, 5, 100);
        for (int b = 3; b < 6; b++) {
            x.boat(b, 0, 63, 100);
            x.hole(63);
            x.home(b);
        }
        x.say(1, 0, 0);
        x.tick();
        x.say(0, 0, 0);
        CHECK.due("0 does not KNOW yet", x.knows(0, 0, NONE, NONE), NONE);
        CHECK.due("the sayer KNOWS", x.knows(0, 1, NONE, NONE), 0);
        x.tick();
        CHECK.due("0 KNOWS", x.knows(0, 0, NONE, NONE), 2);
        CHECK.due("0 KNOWS that 1", x.knows(0, 0, 1, NONE), 2);
        CHECK.due("0 of itself", x.knows(0, 0, 0, NONE), 2);
        CHECK.due("2 not yet", x.knows(0, 2, NONE, NONE), NONE);
        x.tick();
        CHECK.due("1 heard word 1", x.heard(1, 1), 3);
        CHECK.due("said too early", x.knows(0, 1, 0, NONE), NONE);
        CHECK.due("2 KNOWS", x.knows(0, 2, NONE, NONE), 3);
        x.say(0, 0, 0);
        x.tick();
        x.tick();
        CHECK.due("1 KNOWS that 0", x.knows(0, 1, 0, NONE), 5);
        CHECK.due("1 KNOWS that 0 KNOWS that 1", x.knows(0, 1, 0, 1), 5);
        CHECK.due("0 KNOWS that 1 KNOWS that 0, not yet", x.knows(0, 0, 1, 0), NONE);
        x.say(1, 0, 0);
        CHECK.ticks(x, 2);
        CHECK.due("0 KNOWS that 1 KNOWS that 0", x.knows(0, 0, 1, 0), 7);
        CHECK.due("a like b", x.knows(0, 1, 1, 0), 5);
        CHECK.due("b like c", x.knows(0, 1, 0, 0), 5);
        CHECK.due("all alike", x.knows(0, 1, 1, 1), 0);
        CHECK.due("3 of nothing", x.knows(0, 3, 3, 3), NONE);
        CHECK.due("1 of 3", x.knows(0, 1, 3, NONE), NONE);
        CHECK.due("1 of 0 of 3", x.knows(0, 1, 0, 3), NONE);
        CHECK.due("first TICK counts", x.knows(0, 2, 1, NONE), 3);
        sameTick();
        laterWordHeardEarlier();
    }

    // Said in the very TICK at which it KNEW
    private static void sameTick() {
        IceBoats x = new IceBoats();
        x.say(0, 0, 0);
        x.tick();
        x.say(1, 0, 0);
        x.tick();
        CHECK.due("0 KNOWS that 1", x.knows(0, 0, 1, NONE), 2);
        CHECK.due("2 KNOWS that 1", x.knows(0, 2, 1, NONE), 2);
        CHECK.due("2 KNOWS that 1 KNOWS that 0", x.knows(0, 2, 1, 0), 2);
    }

    // The first TICK of hearing counts, not the first word
    private static void laterWordHeardEarlier() {
        IceBoats x = new IceBoats();
        for (int b = 2; b < 6; b++) {
            x.home(b);
        }
        x.boat(0, 0, 0, 100);
        x.boat(1, 0, 12, 100);
        x.say(0, 0, 0);
        x.tick();
        x.boat(0, 0, 11, 100);
        x.say(0, 0, 0);
        CHECK.ticks(x, 5);
        CHECK.due("word 0 by 1", x.heard(0, 1), 5);
        CHECK.due("word 1 by 1", x.heard(1, 1), 2);
        CHECK.due("1 KNOWS that 0 KNOWS word 0", x.knows(0, 1, 0, NONE), 2);
    }

    private static void allKnowing() {
        IceBoats x = new IceBoats();
        x.say(0, 0, 0);
        CHECK.due("the sayer alone", x.allKnow(0, 1, 1), 0);
        CHECK.due("deep 3", x.allKnow(0, 1, 3), 0);
        CHECK.due("not all yet", x.allKnow(0, 3, 1), NONE);
        x.tick();
        CHECK.due("all", x.allKnow(0, 63, 1), 1);
        CHECK.due("not deep 2", x.allKnow(0, 3, 2), NONE);
        CHECK.due("one alone, deep 3", x.allKnow(0, 2, 3), 1);
        x.say(1, 0, 0);
        x.tick();
        CHECK.due("0, 1, deep 2", x.allKnow(0, 3, 2), 2);
        CHECK.due("0, 1, deep 3", x.allKnow(0, 3, 3), NONE);
        CHECK.due("0, 2, deep 2", x.allKnow(0, 5, 2), NONE);
        x.say(0, 0, 0);
        x.tick();
        CHECK.due("0, 1, deep 3", x.allKnow(0, 3, 3), 3);
        for (int b = 2; b < 6; b++) {
            x.say(b, 0, 0);
            x.tick();
        }
        CHECK.due("all, deep 2", x.allKnow(0, 63, 2), 7);
        CHECK.due("all, deep 3", x.allKnow(0, 63, 3), NONE);
        for (int b = 0; b < 6; b++) {
            x.say(b, 0, 0);
            x.tick();
        }
        CHECK.due("all, deep 3", x.allKnow(0, 63, 3), 12);
        CHECK.due("of another word", x.allKnow(1, 63, 1), 2);
        IceBoats y = new IceBoats();
        CHECK.ticks(y, 3);
        y.say(1, 0, 0);
        CHECK.due("the sayer from then", y.allKnow(0, 2, 3), 3);
        CHECK.due("the sayer from then", y.knows(0, 1, IceBoats.NONE, IceBoats.NONE), 3);
        y.tick();
        CHECK.due("0 KNOWS", y.allKnow(0, 3, 1), 4);
        CHECK.due("1 does not KNOW that", y.allKnow(0, 3, 2), NONE);
        y.say(0, 0, 0);
        y.tick();
        CHECK.due("1 KNOWS that", y.allKnow(0, 3, 2), 5);
    }
}
