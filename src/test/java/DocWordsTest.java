/** Along the document: part 3 of the terms, and promises 25 to 31. */
final class DocWordsTest {
    private static final Check CHECK = new Check("the document: words");
    private static final int NONE = IceBoats.NONE, MET = -10, NEVER = -11, DEAF = -12;
    private static final int WORD = 0, FAR = 1, SEEN = 2, WISH = 3, MEET = 4, LEAVE = 5;

    public static void main(String[] args) {
        sounds();
        timesOfAllCells();
        kindsThatOneIs();
        saidByEachKind();
        wordsToldOf();
        heardByEachKind();
        comesByTrueCells();
        comesWhateverBecomesOfTheSayer();
        eachKindAtTime12();
        eachKindIsMet();
        metForOneAlone();
        hearingAndSaying();
        whatOnlyFarDoes();
        farOfTheSayerAlone();
        farForAnchors();
        farByCouldAsItIsThen();
        farInWildSeas();
        seenGivesOneLook();
        wishForTheNextTick();
        meetByTheLeastCell();
        leaveByTheLeastCell();
        telling();
        tellsNothingElse();
        knowing();
        knowingOfOthers();
        knowingByEachKind();
        knowingOfThree();
        knowingOfWhatItDoesNotKnow();
        knowingStays();
        allKnowing();
        CHECK.end();
    }

    private static void is(IceBoats x, int b, int what, long due) {
        CHECK.asked(x, "told(" + b + ", " + what + ")", x.told(b, what), due);
    }

    // BOAT 0 COULD be in 18 and 26 (and is in 18, or by a LOT in 26), others are where told and draw LOTS behind it.
    private static IceBoats spread(boolean carried, int... others) {
        int[] cells = new int[others.length + 1];
        cells[0] = 18;
        System.arraycopy(others, 0, cells, 1, others.length);
        IceBoats x = Fleet.only(cells);
        x.cell(18, 4, 1, 0);
        x.seed(Fleet.seedFor(carried ? "1" : "0"));
        x.tick();
        x.cell(18, 0, 1, 0);
        CHECK.due("COULD ahead", Fleet.could(x, 0), Fleet.cells(18, 26));
        return x;
    }

    private static void sounds() {
        CHECK.quote(0, "SOUND goes from CELL to CELL by WAYS 1 to 4 (not through ROCK, not beyond the sea), and takes in each CELL that it enters its WARMTH in TICKS");
        IceBoats x = new IceBoats();
        for (int w = 1; w <= 4; w++) {
            x.cell(9, 0, w, 0);
            for (int beside : new int[] {1, 8, 10, 17}) {
                CHECK.due("into 9 of WARMTH " + w + " from " + beside, x.time(beside, 9), w);
                CHECK.due("out of 9 to " + beside, x.time(9, beside), 1);
            }
        }
        CHECK.due("around what is warm", x.time(8, 10), 4);
        x.cell(9, 0, 3, 0);
        CHECK.due("through it as long as around", x.time(8, 10), 4);
        x.cell(9, 0, 2, 0);
        CHECK.due("through it", x.time(8, 10), 3);
        x.cell(10, 0, 4, 0);
        CHECK.due("that one's own, too", x.time(8, 10), 6);
        CHECK.quote(0, "TIME of two CELLS is the least sum (0 for a CELL and itself); no way: NOTHING.");
        x.cell(9, 4, 2, 0);
        x.cell(8, 2, 1, 0);
        CHECK.due("CURRENTS are not looked at", x.time(8, 9), 2);
    }

    // Each CELL to each, in seas of all WARMTHS with ROCK, against sums that are made less until none can be.
    private static void timesOfAllCells() {
        CHECK.quote(0, "TIME of two CELLS is the least sum (0 for a CELL and itself); no way: NOTHING.");
        java.util.Random random = new java.util.Random(5);
        for (int round = 0; round < 12; round++) {
            int[] warmth = new int[64];
            boolean[] rock = new boolean[64];
            for (int c = 0; c < 64; c++) {
                warmth[c] = 1 + random.nextInt(4);
                rock[c] = c > 0 && random.nextInt(12) < round % 6;
            }
            for (int from = 0; from < 64; from++) {
                IceBoats x = new IceBoats();
                for (int c = 0; c < 64; c++) {
                    x.cell(c, random.nextInt(5), warmth[c], 0);
                    x.rock(c, rock[c]);
                }
                int[] least = leastSums(from, warmth, rock);
                for (int to = 0; to < 64; to++) {
                    int due = rock[from] || rock[to] ? IceBoats.BAD : least[to] > 1000 ? IceBoats.FINDING : least[to];
                    CHECK.due("time(" + from + ", " + to + ") in sea " + round, x.time(from, to), due);
                }
            }
        }
    }

    private static int[] leastSums(int from, int[] warmth, boolean[] rock) {
        int[] least = new int[64];
        java.util.Arrays.fill(least, 10000);
        least[from] = 0;
        for (boolean less = true; less;) {
            less = false;
            for (int c = 0; c < 64; c++) {
                for (int d = 0; d < 64; d++) {
                    boolean beside = Math.abs(c % 8 - d % 8) + Math.abs(c / 8 - d / 8) == 1;
                    if (beside && !rock[d] && least[c] + warmth[d] < least[d]) {
                        least[d] = least[c] + warmth[d];
                        less = true;
                    }
                }
            }
        }
        return least;
    }

    private static void kindsThatOneIs() {
        CHECK.quote(0, "are of a KIND: 0 WORD, 1 FAR (a WORD), 2 SEEN (a WORD: of a LOOK that it HOLDS), 3 WISH (a WORD: a WAY), 4 MEET (a WISH: a CELL), 5 LEAVE (a WISH).");
        String[] is = {"", "1", "2", "3", "34", "35"};
        for (int kind = WORD; kind <= LEAVE; kind++) {
            IceBoats x = Fleet.only(9, 10);
            x.look(0);
            CHECK.due("said", x.say(0, kind, 0), 0);
            CHECK.asked(x, "KIND", x.word(0, 0), kind);
            for (int k = 1; k <= 5; k++) {
                int asked = k;
                if (is[kind].indexOf('0' + k) < 0) {
                    CHECK.found(x, "a " + kind + " is no " + k, () -> x.tells(0, asked), Check.UNLIKE);
                } else {
                    CHECK.due("a " + kind + " is a " + k, x.tells(0, k) >= 0 ? 1 : 0, 1);
                }
            }
            CHECK.bad(x, "KIND 0 of a " + kind, () -> x.tells(0, 0));
            CHECK.bad(x, "KIND 6 of a " + kind, () -> x.tells(0, 6));
        }
    }

    private static void saidByEachKind() {
        CHECK.quote(0, "A BOAT says one in a TICK at most; that takes 3 of POWER.");
        for (int boat = 0; boat <= Fleet.ANCHOR; boat++) {
            for (int kind = WORD; kind <= LEAVE; kind++) {
                IceBoats x = Fleet.only(9, 10);
                x.look(0);
                x.boat(0, boat, 9, 6);
                CHECK.due("said by a " + boat, x.say(0, kind, 0), 0);
                is(x, 0, 2, 3);
                CHECK.state(x, "another one in this TICK", () -> x.say(0, 0, 0));
                x.tick();
                CHECK.due("in the next one", x.say(0, kind, 0), 1);
                is(x, 0, 2, 0);
            }
        }
        CHECK.quote(26, "its number.");
        IceBoats x = new IceBoats();
        for (int b = 0; b < 6; b++) {
            CHECK.due("of BOAT " + b, x.say(b, WORD, 0), b);
        }
        CHECK.due("words", x.count(2), 6);
    }

    private static void wordsToldOf() {
        CHECK.quote(27, "Of a word: 0 its KIND, 1 who said it, 2 when, 3 v (0: not looked at), told by asked(): 1.");
        IceBoats x = new IceBoats();
        x.look(4);
        x.look(4);
        int[] v = {9, 9, 1, 3, 44, 9};
        int[] due = {0, 0, 1, 3, 44, 0};
        for (int kind = WORD; kind <= LEAVE; kind++) {
            x.tick();
            x.boat(4, 0, 0, 100);
            CHECK.due("said", x.say(4, kind, v[kind]), kind);
        }
        for (int kind = WORD; kind <= LEAVE; kind++) {
            CHECK.asked(x, "KIND", x.word(kind, 0), kind);
            CHECK.asked(x, "who", x.word(kind, 1), 4);
            CHECK.asked(x, "when", x.word(kind, 2), kind + 1);
            CHECK.asked(x, "v", x.word(kind, 3), due[kind]);
        }
    }

    private static void heardByEachKind() {
        CHECK.quote(0, "It comes to each other BOAT that is ABLE as it is said");
        for (int boat = 0; boat <= Fleet.HOME; boat++) {
            for (int kind = WORD; kind <= LEAVE; kind++) {
                IceBoats x = Fleet.ofKind(boat, 9, 50);
                x.boat(1, 0, 11, 100);
                x.look(1);
                x.say(1, kind, 0);
                x.tick();
                boolean able = boat <= Fleet.ANCHOR;
                CHECK.due("a " + kind + " for a " + boat, x.heard(0, 0), able ? NONE : NEVER);
                CHECK.due("heard by a " + boat, x.tick(), able ? 1 : 0);
                CHECK.due("a " + kind + " for a " + boat, x.heard(0, 0), able ? 3 : NEVER);
                if (able) {
                    is(x, 0, 5, 3);
                }
            }
        }
        CHECK.quote(0, "one that comes to a BOAT that is not ABLE by then is not heard.");
        for (int kind = WORD; kind <= LEAVE; kind++) {
            IceBoats x = Fleet.only(9, 11);
            x.hole(9);
            x.look(1);
            x.say(1, kind, 0);
            x.home(0);
            CHECK.due("not ABLE, but it comes yet", x.heard(0, 0), NONE);
            x.tick();
            CHECK.due("not ABLE, but it comes yet", x.heard(0, 0), NONE);
            CHECK.due("none", x.tick(), 0);
            CHECK.due("not ABLE as it came", x.heard(0, 0), DEAF);
            is(x, 0, 4, 0);
            is(x, 0, 5, 0);
            x.boat(0, 0, 9, 50);
            x.tick();
            is(x, 0, 1, 9);
            CHECK.due("does not KNOW", x.knows(0, 0, NONE, NONE), NONE);
        }
    }

    private static void comesByTrueCells() {
        CHECK.quote(0, "TIME of both true CELLS (as it is said) later, if that is no more than 12 (TIME 0: at the next TICK's hearing, as TIME 1).");
        // BOAT 0 is in 26 but COULD be in 18, too; BOAT 1 is in 19
        IceBoats x = spread(true, 19);
        is(x, 0, 1, 26);
        x.say(0, WORD, 0);
        x.tick();
        CHECK.due("TIME 2, not 1", x.heard(0, 1), NONE);
        x.tick();
        CHECK.due("TIME 2", x.heard(0, 1), 3);
        // from the sayer to the hearer, by the WARMTH of what it enters
        IceBoats y = Fleet.only(9, 10);
        y.cell(10, 0, 4, 0);
        y.say(0, WORD, 0);
        y.say(1, WORD, 0);
        CHECK.due("TICK 1: BOAT 0 hears", y.tick(), 1);
        CHECK.due("TICK 2", y.tick(), 0);
        CHECK.due("TICK 3", y.tick(), 0);
        CHECK.due("TICK 4: BOAT 1 hears", y.tick(), 1);
        CHECK.due("there", y.heard(0, 1), 4);
        CHECK.due("and back", y.heard(1, 0), 1);
    }

    private static void comesWhateverBecomesOfTheSayer() {
        CHECK.quote(0, "It comes to each other BOAT that is ABLE as it is said, TIME of both true CELLS (as it is said) later");
        for (int boat = Fleet.BOAT; boat <= Fleet.HOME; boat++) {
            for (int kind = WORD; kind <= LEAVE; kind++) {
                IceBoats x = Fleet.only(9, 12);
                x.hole(9);
                x.look(0);
                x.say(0, kind, 0);
                if (boat <= Fleet.ANCHOR) {
                    x.boat(0, boat, 60, 100);
                } else if (boat == Fleet.DEAD) {
                    x.boat(0, 0, 60, 0);
                } else if (boat == Fleet.LOST) {
                    Fleet.rules(x, 0, "L0");
                } else {
                    x.home(0);
                }
                CHECK.due("comes yet", x.heard(0, 1), NONE);
                CHECK.ticks(x, 2);
                is(x, 0, 0, boat);
                CHECK.due("heard, be its sayer a " + boat, x.tick(), 1);
                CHECK.due("heard", x.heard(0, 1), 3);
                is(x, 1, 4, kind == SEEN ? 1 : 0);
                is(x, 1, 5, 3);
            }
        }
    }

    private static void eachKindAtTime12() {
        CHECK.quote(0, "LOUD is a sound to TIME 12.");
        for (int kind = WORD; kind <= LEAVE; kind++) {
            // 0 to 47 takes 7 and 5, 0 to 55 one more
            IceBoats x = Fleet.only(0, 47, 55);
            x.look(0);
            x.say(0, kind, 0);
            CHECK.due("TIME 12", x.heard(0, 1), NONE);
            CHECK.due("TIME 13", x.heard(0, 2), NEVER);
            CHECK.ticks(x, 11);
            CHECK.due("TIME 12", x.tick(), 1);
            CHECK.due("TIME 12", x.heard(0, 1), 12);
            CHECK.due("never", x.tick(), 0);
            CHECK.due("TIME 13", x.heard(0, 2), NEVER);
        }
    }

    private static void eachKindIsMet() {
        CHECK.quote(0, "If two come to one BOAT in one TICK, both are MET and lost for it");
        for (int one = WORD; one <= LEAVE; one++) {
            for (int other = WORD; other <= LEAVE; other++) {
                IceBoats x = Fleet.only(9, 8, 10);
                x.hole(0);
                x.look(1);
                x.look(2);
                x.say(1, one, 1 - (one == SEEN ? 1 : 0));
                x.say(2, other, 1);
                CHECK.due("BOATS 1 and 2 hear none at TICK 1", x.tick(), 0);
                CHECK.due(one + " by " + other, x.heard(0, 0), MET);
                CHECK.due(other + " by " + one, x.heard(1, 0), MET);
                is(x, 0, 4, 0);
                is(x, 0, 5, 0);
                CHECK.due("COULD", Fleet.could(x, 0), Fleet.cells(9));
                CHECK.due("TICK 2: they hear one another", x.tick(), 2);
                is(x, 0, 1, 9);
                CHECK.due("MET stays", x.heard(0, 0), MET);
            }
        }
    }

    private static void metForOneAlone() {
        CHECK.quote(0, "both are MET and lost for it");
        IceBoats x = Fleet.only(9, 8, 10, 7, 11);
        x.say(1, WORD, 0);
        x.say(2, WORD, 0);
        // 8 to 10 takes 2; both come to 9 at 1; BOAT 4 in 11 hears 2 at 1, and 1 at 3; BOAT 3 in 7
        CHECK.due("TICK 1", x.tick(), 1);
        CHECK.due("MET for 0", x.heard(0, 0), MET);
        CHECK.due("MET for 0", x.heard(1, 0), MET);
        CHECK.due("HEARD by 4", x.heard(1, 4), 1);
        CHECK.due("comes yet to 4", x.heard(0, 4), NONE);
        CHECK.due("TICK 2", x.tick(), 2);
        CHECK.due("HEARD by 2", x.heard(0, 2), 2);
        CHECK.due("HEARD by 1", x.heard(1, 1), 2);
        CHECK.due("TICK 3", x.tick(), 1);
        CHECK.due("HEARD by 4", x.heard(0, 4), 3);
        // three at once
        IceBoats y = Fleet.only(9, 8, 10, 1);
        for (int b = 1; b <= 3; b++) {
            y.say(b, WORD, 0);
        }
        y.tick();
        for (int w = 0; w < 3; w++) {
            CHECK.due("all three are MET", y.heard(w, 0), MET);
        }
        // one that comes to one that is not ABLE, and another one a TICK later, as it is let down
        IceBoats z = Fleet.only(9, 10, 11);
        z.hole(9);
        z.say(1, WORD, 0);
        z.say(2, WORD, 0);
        z.home(0);
        z.tick();
        CHECK.due("not ABLE", z.heard(0, 0), DEAF);
        z.boat(0, 0, 40, 50);
        z.tick();
        CHECK.due("ABLE by then", z.heard(1, 0), 2);
    }

    private static void hearingAndSaying() {
        CHECK.quote(0, "HEARD is a word by a BOAT at a TICK.");
        // one that says at the TICK ahead of the hearing, and one that says at the hearing's TICK
        IceBoats x = Fleet.only(9, 10);
        x.say(0, WORD, 0);
        x.say(1, WORD, 0);
        CHECK.due("both hear, though both say", x.tick(), 2);
        CHECK.due("heard", x.heard(0, 1), 1);
        CHECK.due("heard", x.heard(1, 0), 1);
        CHECK.due("one that heard now says now", x.say(0, WORD, 0), 2);
        CHECK.due("and the other", x.say(1, WORD, 0), 3);
        CHECK.due("heard", x.tick(), 2);
    }

    private static void whatOnlyFarDoes() {
        CHECK.quote(0, "A FAR one: the hearer's COULD keeps only CELLS to which the TIME from some CELL of the sayer's COULD (as it said it) is as long as it took");
        for (int kind = WORD; kind <= LEAVE; kind++) {
            // BOAT 1 in 16, 2 from 18 and 3 from 26
            IceBoats x = spread(false, 16);
            x.look(1);
            x.chart(18, 5);
            x.say(1, kind, 0);
            x.tick();
            CHECK.due("heard", x.tick(), 1);
            CHECK.due("COULD by a " + kind, Fleet.could(x, 0), kind == FAR ? Fleet.cells(18) : Fleet.cells(18, 26));
        }
    }

    private static void farOfTheSayerAlone() {
        CHECK.quote(0, "TIME from some CELL of the sayer's COULD (as it said it) is as long as it took");
        // BOAT 1 says it and COULD be in two CELLS; by the one that hears it its COULD is not narrowed
        IceBoats x = spread(false, 16);
        x.say(0, FAR, 0);
        x.tick();
        CHECK.due("heard", x.tick(), 1);
        CHECK.due("the sayer's COULD stays", Fleet.could(x, 0), Fleet.cells(18, 26));
        CHECK.due("the hearer's COULD stays, it is the only one", Fleet.could(x, 1), Fleet.cells(16));
        // from some CELL of COULD in which the sayer is not
        IceBoats y = Fleet.only(18, 33);
        y.cell(18, 4, 1, 0);
        y.cell(33, 1, 1, 0);
        y.seed(Fleet.seedFor("10"));
        y.tick();
        y.cell(33, 0, 1, 0);
        CHECK.due("the sayer's", Fleet.could(y, 0), Fleet.cells(18, 26));
        CHECK.due("the hearer's", Fleet.could(y, 1), Fleet.cells(25, 33));
        is(y, 0, 1, 26);
        is(y, 1, 1, 33);
        y.say(0, FAR, 0);
        y.tick();
        CHECK.due("heard: 26 to 33 takes 2", y.tick(), 1);
        CHECK.due("33 from 26, or 25 from 18", Fleet.could(y, 1), Fleet.cells(25, 33));
    }

    private static void farForAnchors() {
        CHECK.quote(0, "A FAR one: the hearer's COULD keeps only CELLS");
        for (int kind = 0; kind <= Fleet.ANCHOR; kind++) {
            IceBoats x = Fleet.only(18, 16);
            x.boat(1, kind, 16, 50);
            x.say(1, FAR, 0);
            x.boat(0, kind, 18, 50);
            x.tick();
            x.tick();
            CHECK.due("heard by a " + kind, x.heard(0, 0), 2);
            CHECK.due("COULD of a " + kind, Fleet.could(x, 0), Fleet.cells(18));
        }
    }

    private static void farByCouldAsItIsThen() {
        CHECK.quote(0, "(If none is left, COULD stays; a FAR word tells of where the hearer was as it was said.)");
        // the hearer goes on as the sound is on its way: what it COULD be as it hears is held against the TIME
        IceBoats x = Fleet.only(18, 16);
        x.say(1, FAR, 0);
        x.go(0, 3);
        x.tick();
        x.cell(19, 4, 1, 0);
        x.seed(Fleet.seedFor("0"));
        CHECK.due("heard, as long as it took from 16 to 18", x.tick(), 1);
        is(x, 0, 1, 19);
        CHECK.due("neither 19 nor 27 is 2 from 16: COULD stays", Fleet.could(x, 0), Fleet.cells(19, 27));
        IceBoats y = Fleet.only(18, 16);
        y.say(1, FAR, 0);
        y.tick();
        y.cell(18, 3, 1, 0);
        y.seed(Fleet.seedFor("1"));
        y.tick();
        is(y, 0, 1, 19);
        CHECK.due("18 is, be it that it is in 19 by then", Fleet.could(y, 0), Fleet.cells(18));
    }

    // Both COULD be in many CELLS; CURRENTS end as the word is said, so that COULD stays until it is heard.
    private static void farInWildSeas() {
        CHECK.quote(0, "keeps only CELLS to which the TIME from some CELL of the sayer's COULD (as it said it) is as long as it took, or is 0 and it took 1, by the sea as it is then.");
        java.util.Random random = new java.util.Random(9);
        int narrowed = 0;
        for (int round = 0; round < 300; round++) {
            int[] warmth = new int[64];
            boolean[] rock = new boolean[64];
            int one = 1 + random.nextInt(63);
            int other = 1 + random.nextInt(63);
            IceBoats x = Fleet.only(one, other);
            x.seed(random.nextInt());
            for (int c = 0; c < 64; c++) {
                warmth[c] = 1 + random.nextInt(1 + round % 4);
                rock[c] = c > 0 && c != one && c != other && random.nextInt(8) == 0;
                x.cell(c, random.nextInt(5), warmth[c], 0);
                x.rock(c, rock[c]);
            }
            for (int t = 0; t < 4; t++) {
                x.go(0, random.nextInt(5));
                x.go(1, random.nextInt(5));
                x.tick();
            }
            for (int c = 0; c < 64; c++) {
                x.cell(c, 0, warmth[c], 0);
            }
            long sayer = Fleet.could(x, 0);
            long hearer = Fleet.could(x, 1);
            x.say(0, FAR, 0);
            for (int took = 1; took <= 12; took++) {
                if (x.tick() == 1) {
                    long kept = hearer & atTime(sayer, took, warmth, rock);
                    CHECK.due("COULD in sea " + round, Fleet.could(x, 1), kept == 0 ? hearer : kept);
                    narrowed += kept != 0 && kept != hearer ? 1 : 0;
                }
            }
            CHECK.due("the sayer's stays", Fleet.could(x, 0), sayer);
        }
        CHECK.due("many were narrowed", narrowed > 100 ? 1 : 0, 1);
    }

    private static long atTime(long sources, int took, int[] warmth, boolean[] rock) {
        long cells = 0;
        for (int from = 0; from < 64; from++) {
            int[] least = leastSums(from, warmth, rock);
            for (int c = 0; c < 64 && (sources >> from & 1) == 1; c++) {
                cells |= least[c] == took || least[c] == 0 && took == 1 ? 1L << c : 0;
            }
        }
        return cells;
    }

    private static void seenGivesOneLook() {
        CHECK.quote(0, "A SEEN one: the hearer HOLDS the LOOK.");
        IceBoats x = Fleet.only(9, 10, 40);
        x.look(0);
        x.look(0);
        x.look(0);
        x.say(0, SEEN, 1);
        x.tick();
        int[] held = {1, 3, 1};
        for (int l = 0; l < 3; l++) {
            CHECK.asked(x, "HELD", x.looked(l, 2), held[l]);
        }
        is(x, 0, 4, 3);
        is(x, 1, 4, 1);
        CHECK.due("COULD stays", Fleet.could(x, 1), Fleet.cells(10));
        is(x, 1, 1, 10);
        CHECK.state(x, "one that it does not HOLD", () -> x.say(1, SEEN, 0));
        CHECK.due("said on by one that never looked", x.say(1, SEEN, 1), 1);
        CHECK.ticks(x, 5);
        CHECK.asked(x, "HELD by all three", x.looked(1, 2), 7);
        is(x, 0, 4, 3);
        CHECK.due("the tellings of it", x.tells(1, SEEN), 0);
    }

    private static void wishForTheNextTick() {
        CHECK.quote(0, "A WISH: the hearer's WAY for the next TICK (if it was told none)");
        for (int way = 0; way < 5; way++) {
            int[] to = {27, 19, 26, 28, 35};
            IceBoats x = Fleet.only(27, 28);
            x.say(1, WISH, way);
            CHECK.due("heard", x.tick(), 1);
            is(x, 0, 1, 27);
            is(x, 0, 2, 100);
            x.tick();
            is(x, 0, 1, to[way]);
            is(x, 0, 2, way == 0 ? 100 : 98);
            x.tick();
            is(x, 0, 1, to[way]);
            is(x, 1, 1, 28);
        }
        for (int way = 0; way < 5; way++) {
            int[] to = {27, 19, 26, 28, 35};
            IceBoats x = Fleet.only(27, 28);
            x.say(1, WISH, 4 - way);
            x.tick();
            CHECK.due("told behind the WISH", x.go(0, way), 1);
            x.tick();
            is(x, 0, 1, to[way]);
        }
        // it says, looks behind the hearing: the WISH stays
        IceBoats x = Fleet.only(27, 28);
        x.say(1, WISH, 1);
        x.tick();
        x.look(0);
        x.say(0, WORD, 0);
        x.tick();
        is(x, 0, 1, 19);
        // the words that are no WISH tell no WAY
        for (int kind : new int[] {WORD, FAR, SEEN}) {
            IceBoats y = Fleet.only(27, 28);
            y.look(1);
            y.say(1, kind, 0);
            y.tick();
            y.tick();
            is(y, 0, 1, 27);
            is(y, 0, 2, 100);
        }
        // an ANCHOR stays
        IceBoats z = Fleet.only(27, 28);
        z.boat(0, Fleet.ANCHOR, 27, 50);
        z.say(1, WISH, 1);
        z.tick();
        z.tick();
        is(z, 0, 1, 27);
        is(z, 0, 2, 50);
    }

    private static void meetByTheLeastCell() {
        CHECK.quote(0, "MEET: the WAY 1 to 4 (the first) by which the least CELL of COULD comes nearer to the CELL (by steps x and y together), if one does (and it was told none)");
        int[] to = {9, 13, 41, 45, 25, 29, 11, 43, 27};
        int[] way = {1, 1, 2, 3, 2, 3, 1, 4, 0};
        int[] led = {27, 19, 26, 28, 35};
        for (int i = 0; i < to.length; i++) {
            IceBoats x = Fleet.only(27, 28);
            x.say(1, MEET, to[i]);
            x.tick();
            x.tick();
            is(x, 0, 1, led[way[i]]);
            CHECK.due("POWER", Fleet.power(x, 0), way[i] == 0 ? 100 : 98);
        }
        // it is in 26, but the least CELL of COULD is 18: from there 22 is by WAY 3, from 26 by WAY 1
        IceBoats x = spread(true, 27);
        x.say(1, MEET, 22);
        x.tick();
        x.tick();
        is(x, 0, 1, 27);
        CHECK.due("COULD", Fleet.could(x, 0), Fleet.cells(19, 27));
        CHECK.quote(26, "(SEEN: a LOOK; WISH: a WAY; MEET: a CELL; others: not looked at)");
        IceBoats y = Fleet.only(27, 28);
        y.rock(40, true);
        CHECK.due("a CELL that is ROCK", y.say(1, MEET, 40), 0);
        y.tick();
        y.tick();
        is(y, 0, 1, 26);
    }

    private static void leaveByTheLeastCell() {
        CHECK.quote(0, "LEAVE: likewise to THE HOLE.");
        // as above, with THE HOLE in 22
        IceBoats x = spread(true, 27);
        x.hole(22);
        x.say(1, LEAVE, 63);
        x.tick();
        x.tick();
        is(x, 0, 1, 27);
        CHECK.due("COULD", Fleet.could(x, 0), Fleet.cells(19, 27));
        // and in 26: the least one is 18, so it goes by WAY 4, away from it
        IceBoats y = spread(true, 27);
        y.hole(26);
        y.say(1, LEAVE, 0);
        y.tick();
        y.tick();
        is(y, 0, 1, 34);
        // ROCK is in the way: the first that leads nearer
        IceBoats z = Fleet.only(27, 28);
        z.hole(9);
        z.rock(19, true);
        z.say(1, LEAVE, 0);
        z.tick();
        z.tick();
        is(z, 0, 1, 26);
    }

    private static void telling() {
        CHECK.quote(28, "a FAR one how many CELLS were in the sayer's COULD, a SEEN one the ICE of its LOOK, a WISH (MEET, LEAVE, too) how many HEARD it, a MEET one its CELL, a LEAVE one how many steps THE HOLE is from the sayer's CELL now (x and y).");
        IceBoats x = spread(true, 19);
        x.cell(26, 0, 1, 8);
        x.look(0);
        x.say(0, FAR, 0);
        CHECK.due("CELLS", x.tells(0, FAR), 2);
        x.boat(0, 0, 18, 100);
        CHECK.due("as it was said", x.tells(0, FAR), 2);
        x.tick();
        x.say(0, SEEN, 0);
        CHECK.due("ICE", x.tells(1, SEEN), 8);
        x.cell(26, 0, 1, 7);
        CHECK.due("of its LOOK", x.tells(1, SEEN), 8);
        // it is in 26 and COULD be in 18: by the true CELL
        IceBoats y = spread(true, 19);
        y.hole(2);
        y.say(0, LEAVE, 0);
        CHECK.due("steps from 26 to 2", y.tells(0, LEAVE), 3);
        CHECK.due("none HEARD it yet", y.tells(0, WISH), 0);
        y.hole(63);
        CHECK.due("THE HOLE as it is now", y.tells(0, LEAVE), 9);
        y.tick();
        y.tick();
        CHECK.due("one HEARD it", y.tells(0, WISH), 1);
        y.boat(0, 0, 62, 10);
        CHECK.due("the sayer's CELL as it is now", y.tells(0, LEAVE), 1);
    }

    private static void tellsNothingElse() {
        CHECK.quote(41, "What the latest lay(), mean(), sea(), told(), looked(), word(), shifts(), plan(), courses() that was not refused told");
        for (int kind = FAR; kind <= LEAVE; kind++) {
            IceBoats x = Fleet.only(27, 28, 29);
            x.look(0);
            x.say(0, kind, 0);
            x.tick();
            x.tick();
            x.sea(5, 2);
            x.could(2);
            long before = x.set();
            x.tells(0, kind);
            CHECK.due("asked() stays by a " + kind, x.asked(), 1);
            CHECK.due("set() stays by a " + kind, x.set(), before);
            x.heard(0, 1);
            x.knows(0, 1, 0, NONE);
            x.allKnow(0, 3, 2);
            CHECK.due("asked() stays", x.asked(), 1);
        }
    }

    private static void knowing() {
        CHECK.quote(0, "KNOWS: a BOAT KNOWS a word from the TICK on at which it HEARD it (who said it, from then).");
        IceBoats x = Fleet.only(9, 10, 12);
        CHECK.ticks(x, 2);
        x.say(0, WORD, 0);
        CHECK.due("who said it", x.knows(0, 0, NONE, NONE), 2);
        CHECK.due("who will hear it", x.knows(0, 1, NONE, NONE), NONE);
        CHECK.ticks(x, 3);
        CHECK.due("from the TICK", x.knows(0, 1, NONE, NONE), 3);
        CHECK.due("from the TICK", x.knows(0, 2, NONE, NONE), 5);
        CHECK.due("to whom it never came", x.knows(0, 3, NONE, NONE), NONE);
    }

    private static void knowingOfOthers() {
        CHECK.quote(0, "a KNOWS that b KNOWS, from the first TICK at which a HEARD a word that b said at a TICK no earlier than b KNEW (b itself: a like b: as it KNOWS).");
        // BOAT 2 does not HEAR word 0 (MET), but a later one that BOAT 1, who KNOWS, says
        IceBoats x = Fleet.only(9, 10, 11);
        x.say(0, WORD, 0);
        CHECK.due("BOAT 1 hears", x.tick(), 1);
        x.say(1, WORD, 0);
        CHECK.due("BOAT 2: words 0 and 1 meet; BOAT 0 hears", x.tick(), 1);
        CHECK.due("MET", x.heard(0, 2), MET);
        CHECK.due("BOAT 0 KNOWS that 1 KNOWS", x.knows(0, 0, 1, NONE), 2);
        CHECK.due("BOAT 2 does not", x.knows(0, 2, 1, NONE), NONE);
        x.say(1, WORD, 0);
        x.tick();
        CHECK.due("BOAT 2 KNOWS that 1 KNOWS, though it does not KNOW itself", x.knows(0, 2, 1, NONE), 3);
        CHECK.due("it does not KNOW", x.knows(0, 2, NONE, NONE), NONE);
        CHECK.due("nor does it KNOW of 0", x.knows(0, 2, 0, NONE), NONE);
        CHECK.due("BOAT 0: from the first", x.knows(0, 0, 1, NONE), 2);
        CHECK.due("BOAT 2 KNOWS that 1 KNOWS that 0 KNOWS", x.knows(0, 2, 1, 0), 3);
        CHECK.due("BOAT 1 KNOWS of 2: nothing", x.knows(0, 1, 2, NONE), NONE);
        CHECK.due("BOAT 1 of itself: as it KNOWS", x.knows(0, 1, 1, NONE), 1);
        CHECK.due("BOAT 0 of itself: as it KNOWS", x.knows(0, 0, 0, NONE), 0);
        CHECK.due("BOAT 2 of itself: as it KNOWS", x.knows(0, 2, 2, NONE), NONE);
        // a word that b said ahead of its KNOWING is none, be it HEARD behind it
        IceBoats y = Fleet.only(9, 10, 14);
        y.say(1, WORD, 0);
        y.tick();
        y.say(0, WORD, 0);
        CHECK.ticks(y, 3);
        CHECK.due("BOAT 1 KNOWS word 1", y.knows(1, 1, NONE, NONE), 2);
        CHECK.due("BOAT 2 HEARD word 0, of BOAT 1", y.heard(0, 2), 4);
        CHECK.due("that was said ahead of it", y.knows(1, 2, 1, NONE), NONE);
    }

    private static void knowingByEachKind() {
        CHECK.quote(0, "from the first TICK at which a HEARD a word that b said at a TICK no earlier than b KNEW");
        for (int of = WORD; of <= LEAVE; of++) {
            for (int by = WORD; by <= LEAVE; by++) {
                IceBoats x = Fleet.only(9, 10);
                x.look(0);
                x.look(1);
                x.say(0, of, 0);
                x.tick();
                CHECK.due("a " + of + " KNOWN", x.knows(0, 1, NONE, NONE), 1);
                CHECK.due("and that its sayer KNOWS", x.knows(0, 1, 0, NONE), 1);
                CHECK.due("by no word yet", x.knows(0, 0, 1, NONE), NONE);
                CHECK.due("said", x.say(1, by, by == SEEN ? 1 : 0), 1);
                x.boat(1, 0, 10, 100);
                x.tick();
                CHECK.due("that a " + of + " is KNOWN, by a " + by, x.knows(0, 0, 1, NONE), 2);
                CHECK.due("deep 2", x.allKnow(0, 3, 2), 2);
            }
        }
    }

    private static void knowingOfWhatItDoesNotKnow() {
        CHECK.quote(0, "A chain of three likewise.");
        // word 0 takes 10 from BOAT 2 to BOAT 1; let down beside it, BOAT 2 says another one
        IceBoats x = Fleet.only(24, 25, 35);
        x.boat(2, 0, 35, 100);
        x.cell(25, 0, 4, 0);
        x.rock(33, true);
        x.rock(26, true);
        x.rock(17, true);
        x.say(2, WORD, 0);
        CHECK.due("24 is between", x.time(35, 25) > 6 ? 1 : 0, 1);
        int hears = x.time(35, 25);
        x.cell(25, 0, 1, 0);
        x.boat(0, 0, 24, 100);
        x.tick();
        x.boat(2, 0, 25, 100);
        x.say(2, WORD, 0);
        x.tick();
        CHECK.due("BOAT 1 HEARD word 1", x.heard(1, 1), 2);
        CHECK.due("BOAT 1 does not KNOW word 0", x.knows(0, 1, NONE, NONE), NONE);
        CHECK.due("but that BOAT 2 KNOWS it", x.knows(0, 1, 2, NONE), 2);
        x.say(1, WORD, 0);
        x.tick();
        CHECK.due("BOAT 0 KNOWS that 1 KNOWS that 2 KNOWS", x.knows(0, 0, 1, 2), 3);
        CHECK.due("not that 1 KNOWS", x.knows(0, 0, 1, NONE), NONE);
        while (x.count(0) < hears) {
            x.tick();
        }
        CHECK.due("BOAT 1 KNOWS word 0 at last", x.knows(0, 1, NONE, NONE), hears);
        CHECK.due("that 2 KNOWS it: as before", x.knows(0, 1, 2, NONE), 2);
        CHECK.due("of three: as before", x.knows(0, 0, 1, 2), 3);
    }

    private static void knowingOfThree() {
        CHECK.quote(0, "A chain of three likewise.");
        IceBoats x = Fleet.only(9, 10);
        x.say(0, WORD, 0);
        x.tick();
        int[][][] due = new int[2][2][2];
        due[0][0][0] = 0;
        due[0][0][1] = NONE;
        due[0][1][0] = NONE;
        due[0][1][1] = NONE;
        due[1][0][0] = 1;
        due[1][0][1] = NONE;
        due[1][1][0] = 1;
        due[1][1][1] = 1;
        chains(x, due);
        x.say(1, WORD, 0);
        x.tick();
        due[0][0][1] = 2;
        due[0][1][0] = 2;
        due[0][1][1] = 2;
        chains(x, due);
        x.say(0, WORD, 0);
        x.tick();
        due[1][0][1] = 3;
        chains(x, due);
    }

    private static void chains(IceBoats x, int[][][] due) {
        for (int a = 0; a < 2; a++) {
            for (int b = 0; b < 2; b++) {
                for (int c = 0; c < 2; c++) {
                    CHECK.due("knows(0, " + a + ", " + b + ", " + c + ")", x.knows(0, a, b, c), due[a][b][c]);
                }
            }
        }
    }

    private static void knowingStays() {
        CHECK.quote(30, "From which TICK on a KNOWS a word (b, c NONE), or that b KNOWS it (c NONE), or that b KNOWS that c KNOWS it; NONE: it does not.");
        IceBoats x = Fleet.only(9, 10);
        x.hole(10);
        x.say(0, WORD, 0);
        x.tick();
        x.boat(0, 0, 9, 0);
        x.home(1);
        x.tick();
        is(x, 0, 0, Fleet.DEAD);
        is(x, 1, 0, Fleet.HOME);
        CHECK.due("a DEAD one", x.knows(0, 0, NONE, NONE), 0);
        CHECK.due("a HOME one", x.knows(0, 1, NONE, NONE), 1);
        CHECK.due("of a DEAD one", x.knows(0, 1, 0, NONE), 1);
        CHECK.due("all of both", x.allKnow(0, 3, 1), 1);
        x.boat(1, 1, 40, 50);
        CHECK.due("let down again", x.knows(0, 1, NONE, NONE), 1);
        CHECK.due("let down again", x.knows(0, 1, 0, NONE), 1);
    }

    private static void allKnowing() {
        CHECK.quote(31, "From which TICK on all of BOATS (bits) KNOW a word (deep 1), and each KNOWS so of each (2), and so on (3); NONE.");
        IceBoats x = Fleet.only(9, 10);
        x.tick();
        x.say(0, WORD, 0);
        for (int deep = 1; deep <= 3; deep++) {
            CHECK.due("of the sayer alone", x.allKnow(0, 1, deep), 1);
            CHECK.due("of another one alone", x.allKnow(0, 2, deep), NONE);
            CHECK.due("of both", x.allKnow(0, 3, deep), NONE);
        }
        int[][] due = {{2, NONE, NONE}, {2, 3, NONE}, {2, 3, 4}, {2, 3, 4}};
        for (int t = 0; t < 4; t++) {
            x.tick();
            for (int deep = 1; deep <= 3; deep++) {
                CHECK.due("TICK " + (t + 2) + ", deep " + deep, x.allKnow(0, 3, deep), due[t][deep - 1]);
                CHECK.due("of one that HEARD it alone", x.allKnow(0, 2, deep), 2);
                CHECK.due("with one that does not KNOW", x.allKnow(0, 7, deep), NONE);
            }
            x.say(1 - t % 2, WORD, 0);
        }
    }
}
