import java.util.ArrayList;
import java.util.List;
import java.util.function.Supplier;
import java.util.function.ToLongFunction;

/**
 * Which refusal is answered where several fit, and that what is refused changes nothing but finding(), findings(): two
 * objects live alike, one of them is asked what it refuses, and both must go on alike.
 */
final class EdgeRefusalsTest {
    private static final Check CHECK = new Check("edges of refusals");
    private static final int BAD = IceBoats.BAD, FULL = IceBoats.FULL, STATE = IceBoats.STATE, SPENT = IceBoats.SPENT, NONE = IceBoats.NONE;
    private static final int NOTHING = 1, BEYOND = 2, UNLIKE = 3, NOUGHT = 4, SIZE = 5;

    private final Supplier<IceBoats> life;

    private EdgeRefusalsTest(Supplier<IceBoats> life) {
        this.life = life;
    }

    public static void main(String[] args) {
        CHECK.sentence(0, "Refused is, the first of these that fits, in this order: BAD, FULL, STATE, SPENT, FINDING; what is refused changes nothing");
        EdgeRefusalsTest some = new EdgeRefusalsTest(EdgeRefusalsTest::withSomeOfAll);
        some.rows();
        some.texts();
        some.sea();
        some.boats();
        some.words();
        some.rules();
        some.maps();
        some.told();
        CHECK.sentence(0, "FULL -2, unless a call says so otherwise (FULL behind STATE)");
        new EdgeRefusalsTest(EdgeRefusalsTest::full).whenFull();
        CHECK.sentence(0, "STATE -4 (not now)");
        new EdgeRefusalsTest(EdgeRefusalsTest::atTheLastTick).atTheEnd();
        CHECK.end();
    }

    /**
     * BOATS 0 to 5: a MAPPER in 9 that looked, said one and was told a WAY; a CARRIER in 10; an ANCHOR in 11; a DEAD, a LOST
     * and a HOME one. ROWS 0: WAYS; 1: a MAP; 2: none; 3: 13 places; 4: a wrong WAY; 5: missing. TEXTS 0: RULES; 1: a FAULT;
     * 2: none; 3: missing. ROCK in 20, and around 63; THE HOLE in 8.
     */
    private static IceBoats withSomeOfAll() {
        IceBoats x = new IceBoats();
        for (int c = 0; c < 64; c++) {
            x.cell(c, 1 + c % 4, 1 + c % 3, c % 10);
        }
        for (int c : new int[] {20, 55, 62}) {
            x.rock(c, true);
        }
        CHECK.text(x, 0, "H5W2");
        CHECK.text(x, 1, "L0");
        x.rules(1, 0);
        x.rules(4, 1);
        CHECK.text(x, 1, "H9W0");
        x.text(2, 0);
        CHECK.row(x, 0, 3, 3);
        x.row(1, 16);
        x.row(2, 0);
        x.row(3, 13);
        CHECK.row(x, 4, 5);
        x.boat(3, 0, 12, 0);
        x.home(5);
        x.hole(8);
        x.tick();
        x.boat(0, 1, 9, 50);
        x.boat(1, 2, 10, 50);
        x.boat(2, 3, 11, 50);
        x.seed(5);
        x.look(0);
        x.say(0, 1, 0);
        x.go(0, 3);
        x.go(1, 4);
        x.chart(9, 4);
        x.could(1);
        x.odds(9, 0);
        x.told(0, 2);
        x.lay(5, 0, 0);
        return x;
    }

    // 40 LOOKS, 40 words; BOAT 0 said one in this TICK, 1 HOLDS no LOOK, 2 has POWER 2, 3 is DEAD, 4 a MAPPER without POWER
    private static IceBoats full() {
        IceBoats x = new IceBoats();
        x.boat(0, 1, 0, 1000);
        for (int l = 0; l < 40; l++) {
            x.look(0);
        }
        x.boat(3, 0, 0, 0);
        for (int w = 0; w < 40; w++) {
            x.tick();
            x.say(0, w % 2, 0);
        }
        x.boat(2, 0, 0, 2);
        x.boat(4, 1, 0, 0);
        return x;
    }

    private static IceBoats atTheLastTick() {
        IceBoats x = new IceBoats();
        CHECK.ticks(x, 998);
        x.say(0, 0, 0);
        x.tick();
        x.go(1, 3);
        return x;
    }

    /** All that an object tells, now and as it goes on: what it keeps to itself comes to light by and by. */
    private static List<Long> goOn(IceBoats x) {
        List<Long> all = new ArrayList<>(List.of((long) x.asked(), x.set(), x.upper(), x.lower(), x.digest()));
        for (int b = 0; b < 6; b++) {
            all.add((long) x.match(b));
            for (int kind = 1; kind <= 6; kind++) {
                all.add((long) x.mark(b, kind));
            }
            all.add((long) x.asks(b));
            all.add((long) x.say(b, 1, 0));
        }
        for (int w = 0; w < x.count(2); w++) {
            for (int kind = 1; kind <= 5; kind++) {
                all.add((long) x.tells(w, kind));
            }
        }
        for (int t = 0; t < 5; t++) {
            all.add((long) x.tick());
            all.add(x.digest());
        }
        for (int b = 0; b < 6; b++) {
            all.add((long) x.look(b));
            all.add((long) x.match(b));
            x.could(b);
            all.add(x.set());
        }
        all.add(x.digest());
        return all;
    }

    /** A call that is refused by want; by a FINDING, if finding is not 0. */
    private void refused(String what, ToLongFunction<IceBoats> call, long want, int finding) {
        IceBoats x = life.get();
        IceBoats twin = life.get();
        CHECK.due(what, call.applyAsLong(x), want);
        CHECK.due(what + ": finding()", x.finding(), finding == 0 ? twin.finding() : finding);
        for (int f = 1; f <= 5; f++) {
            CHECK.due(what + ": findings(" + f + ")", x.findings(f), twin.findings(f) + (f == finding ? 1 : 0));
        }
        List<Long> gone = goOn(x);
        List<Long> due = goOn(twin);
        CHECK.due(what + ": as many are told", gone.size(), due.size());
        for (int i = 0; i < Math.min(gone.size(), due.size()); i++) {
            CHECK.due(what + ": told behind it, " + i, gone.get(i), due.get(i));
        }
    }

    private void bad(String what, ToLongFunction<IceBoats> call) {
        refused(what, call, BAD, 0);
    }

    private void state(String what, ToLongFunction<IceBoats> call) {
        refused(what, call, STATE, 0);
    }

    private void found(String what, ToLongFunction<IceBoats> call, int finding) {
        refused(what, call, IceBoats.FINDING, finding);
    }

    private void rows() {
        bad("row: BAD, SIZE", x -> x.row(6, -1));
        bad("row: above 40", x -> x.row(0, 41));
        found("row: SIZE", x -> x.row(0, -1), SIZE);
        found("row: SIZE, missing", x -> x.row(5, -1), SIZE);
        bad("lay: BAD", x -> x.lay(6, 99, 1));
        found("lay: NOTHING, BEYOND", x -> x.lay(5, 99, 1), NOTHING);
        found("lay: BEYOND", x -> x.lay(0, 2, 1), BEYOND);
        found("lay: BEYOND, -1", x -> x.lay(0, -1, 1), BEYOND);
        bad("tear: BAD", x -> x.tear(6));
        found("tear: NOTHING", x -> x.tear(5), NOTHING);
        bad("copy: BAD, SIZE", x -> x.copy(0, 0, 6, 0, -1));
        bad("copy: BAD, NOTHING", x -> x.copy(6, 0, 5, 0, 1));
        found("copy: SIZE, NOTHING, BEYOND", x -> x.copy(5, 99, 0, 99, -1), SIZE);
        found("copy: NOTHING, BEYOND", x -> x.copy(0, 99, 5, 99, 1), NOTHING);
        found("copy: BEYOND, from", x -> x.copy(0, 1, 1, 0, 2), BEYOND);
        found("copy: BEYOND, to", x -> x.copy(1, 0, 0, 1, 2), BEYOND);
        bad("mean: BAD", x -> x.mean(6));
        found("mean: NOTHING", x -> x.mean(5), NOTHING);
        found("mean: NOUGHT", x -> x.mean(2), NOUGHT);
    }

    private void texts() {
        bad("text: BAD, SIZE", x -> x.text(4, -1));
        bad("text: above 40", x -> x.text(0, 41));
        found("text: SIZE", x -> x.text(0, -1), SIZE);
        bad("put: BAD", x -> x.put(4, 99, 1));
        found("put: NOTHING, BEYOND", x -> x.put(3, 99, 1), NOTHING);
        found("put: BEYOND", x -> x.put(0, 4, 1), BEYOND);
        found("put: BEYOND, none", x -> x.put(2, 0, 1), BEYOND);
    }

    private void sea() {
        bad("rock: BAD", x -> x.rock(64, true));
        state("rock: STATE, THE HOLE", x -> x.rock(8, true));
        state("rock: STATE, a BOAT", x -> x.rock(11, true));
        bad("cell: BAD, the CELL", x -> x.cell(64, 1, 1, 1));
        bad("cell: BAD, CURRENT", x -> x.cell(9, 5, 1, 1));
        bad("cell: BAD, WARMTH", x -> x.cell(9, 1, 5, 1));
        bad("cell: BAD, ICE", x -> x.cell(9, 1, 1, 10));
        bad("sea: BAD", x -> x.sea(9, 5));
        bad("chart: BAD", x -> x.chart(9, 10));
        bad("hole: BAD", x -> x.hole(64));
        state("hole: STATE", x -> x.hole(20));
    }

    private void boats() {
        bad("boat: BAD, STATE, KIND", x -> x.boat(0, 4, 20, 5));
        bad("boat: BAD, STATE, POWER", x -> x.boat(0, 0, 20, 1001));
        bad("boat: BAD, STATE, BOAT", x -> x.boat(6, 0, 20, 5));
        state("boat: STATE", x -> x.boat(0, 0, 20, 5));
        state("boat: STATE, a DEAD one", x -> x.boat(3, 0, 20, 5));
        bad("told: BAD", x -> x.told(0, 6));
        bad("mark: BAD, UNLIKE", x -> x.mark(1, 7));
        bad("mark: BAD, KIND 0", x -> x.mark(1, 0));
        found("mark: UNLIKE", x -> x.mark(1, 1), UNLIKE);
        bad("could: BAD", x -> x.could(6));
        bad("go: BAD", x -> x.go(0, 5));
        bad("go: BAD, STATE", x -> x.go(3, 5));
        for (int b = 3; b < 6; b++) {
            int of = b;
            state("go: STATE, " + b, x -> x.go(of, 1));
            state("look: STATE, " + b, x -> x.look(of));
            state("match: STATE, " + b, x -> x.match(of));
            state("home: STATE, " + b, x -> x.home(of));
            state("say: STATE, " + b, x -> x.say(of, 0, 0));
            state("asks: STATE, " + b, x -> x.asks(of));
        }
        bad("look: BAD", x -> x.look(6));
        bad("looked: BAD", x -> x.looked(1, 0));
        bad("match: BAD", x -> x.match(-1));
        state("match: STATE, no LOOK", x -> x.match(1));
        bad("home: BAD", x -> x.home(6));
        state("home: STATE, not there", x -> x.home(0));
    }

    private void words() {
        bad("time: BAD, NOTHING", x -> x.time(63, 20));
        bad("time: BAD, NOTHING", x -> x.time(63, 64));
        found("time: NOTHING", x -> x.time(63, 0), NOTHING);
        bad("say: BAD, STATE, KIND", x -> x.say(3, 6, 0));
        bad("say: BAD, STATE, v", x -> x.say(0, 3, 5));
        bad("say: BAD, no such LOOK", x -> x.say(1, 2, 1));
        state("say: STATE, said one", x -> x.say(0, 0, 0));
        state("say: STATE, does not HOLD it", x -> x.say(1, 2, 0));
        bad("word: BAD", x -> x.word(1, 0));
        bad("tells: BAD, UNLIKE", x -> x.tells(0, 6));
        bad("tells: BAD, KIND 0", x -> x.tells(0, 0));
        found("tells: UNLIKE", x -> x.tells(0, 3), UNLIKE);
        bad("heard: BAD", x -> x.heard(0, 6));
        bad("knows: BAD", x -> x.knows(0, 0, NONE, 0));
        bad("allKnow: BAD, none", x -> x.allKnow(0, 0, 1));
        bad("allKnow: BAD, deep", x -> x.allKnow(0, 1, 4));
    }

    private void rules() {
        bad("fault: BAD", x -> x.fault(4));
        found("fault: NOTHING", x -> x.fault(3), NOTHING);
        bad("rules: BAD, NOTHING", x -> x.rules(6, 3));
        bad("rules: BAD, STATE", x -> x.rules(6, 1));
        found("rules: NOTHING", x -> x.rules(1, 3), NOTHING);
        state("rules: STATE", x -> x.rules(1, 1));
        bad("rule: BAD", x -> x.rule(0, 4));
        bad("asks: BAD", x -> x.asks(6));
    }

    private void maps() {
        bad("shifts: BAD, NOTHING", x -> x.shifts(1, 5, 17));
        bad("shifts: BAD, SIZE", x -> x.shifts(0, 0, 0));
        found("shifts: NOTHING, SIZE", x -> x.shifts(0, 5, 1), NOTHING);
        found("shifts: SIZE", x -> x.shifts(1, 4, 1), SIZE);
        bad("mapped: BAD", x -> x.mapped(64));
        bad("plan: BAD, SPENT", x -> x.plan(63, 64));
        bad("plan: BAD, NOTHING", x -> x.plan(0, 32));
        refused("plan: SPENT, NOTHING", x -> x.plan(15, 32), SPENT, 0);
        refused("plan: SPENT, SIZE", x -> x.plan(15, 8), SPENT, 0);
        refused("plan: SPENT, UNLIKE", x -> x.plan(15, 16), SPENT, 0);
        refused("plan: SPENT", x -> x.plan(63, 1), SPENT, 0);
        found("plan: NOTHING, SIZE, UNLIKE", x -> x.plan(7, 63), NOTHING);
        found("plan: SIZE, UNLIKE", x -> x.plan(7, 31), SIZE);
        found("plan: UNLIKE", x -> x.plan(7, 17), UNLIKE);
        bad("odds: BAD, NOTHING", x -> x.odds(64, 5));
        bad("odds: ROCK, NOTHING", x -> x.odds(20, 5));
        found("odds: NOTHING", x -> x.odds(9, 5), NOTHING);
        found("odds: SIZE", x -> x.odds(9, 2), SIZE);
        found("odds: UNLIKE", x -> x.odds(9, 4), UNLIKE);
        bad("courses: BAD, NOTHING", x -> x.courses(64, 5, 5));
        bad("courses: ROCK, SIZE", x -> x.courses(20, 3, 3));
        found("courses: NOTHING, SIZE", x -> x.courses(9, 3, 5), NOTHING);
        found("courses: SIZE, WAYS", x -> x.courses(9, 2, 2), SIZE);
        found("courses: SIZE, what was seen, UNLIKE", x -> x.courses(9, 4, 3), SIZE);
        found("courses: UNLIKE, a WAY", x -> x.courses(9, 4, 2), UNLIKE);
        found("courses: UNLIKE, behind which", x -> x.courses(9, 0, 0), UNLIKE);
    }

    private void told() {
        bad("count: BAD", x -> x.count(8));
        bad("findings: BAD", x -> x.findings(6));
        bad("findings: BAD, 0", x -> x.findings(0));
    }

    private void whenFull() {
        bad("look: BAD, FULL", x -> x.look(6));
        refused("look: FULL", x -> x.look(0), FULL, 0);
        refused("look: FULL, another one", x -> x.look(1), FULL, 0);
        state("look: STATE, FULL, not ABLE", x -> x.look(3));
        state("look: STATE, FULL, POWER 2", x -> x.look(2));
        state("look: STATE, FULL, a MAPPER's POWER 0", x -> x.look(4));
        bad("say: BAD, FULL, BOAT", x -> x.say(6, 0, 0));
        bad("say: BAD, FULL, KIND", x -> x.say(1, 6, 0));
        bad("say: BAD, FULL, v", x -> x.say(1, 3, 5));
        refused("say: FULL", x -> x.say(1, 0, 0), FULL, 0);
        refused("say: FULL, a WISH", x -> x.say(1, 3, 1), FULL, 0);
        state("say: STATE, FULL, said one", x -> x.say(0, 0, 0));
        state("say: STATE, FULL, POWER 2", x -> x.say(2, 0, 0));
        state("say: STATE, FULL, not ABLE", x -> x.say(3, 0, 0));
        state("say: STATE, FULL, does not HOLD it", x -> x.say(1, 2, 0));
        bad("looked: BAD, 40", x -> x.looked(40, 0));
        bad("word: BAD, 40", x -> x.word(40, 0));
    }

    private void atTheEnd() {
        state("tick: STATE", x -> x.tick());
        state("tick: STATE, twice", x -> x.tick() == STATE ? x.tick() : 0);
    }
}
