/**
 * Boats under the ice: a sea of 64 CELLS, six BOATS, their words, looks, rules and plans.
 * What each call promises stands in the project's document; README.md says how to use the class.
 */
public final class IceBoats {
    public static final int BAD = -1, FULL = -2, FINDING = -3, STATE = -4, SPENT = -6, NONE = -9;

    private static final int NOTHING = 1, BEYOND = 2, UNLIKE = 3, NOUGHT = 4, SIZE = 5;
    private static final int CELLS = 64, SIDE = 8, WAYS = 5, BOATS = 6, ALL_BOATS = 63, ALL_ROWS = 63;
    private static final int ROWS = 6, TEXTS = 4, MOST_PLACES = 40, MOST_LOOKS = 40, MOST_WORDS = 40;
    private static final int LAST_TICK = 999, MOST_POWER = 1000, MOST_ICE = 9, MOST_WARMTH = 4;
    private static final int MAPPER = 1, CARRIER = 2, ANCHOR = 3, LOST = 4, DEAD = 5, HOME = 6;
    private static final int FAR = 1, SEEN = 2, WISH = 3, MEET = 4, LEAVE = 5;
    private static final int MET = -10, NEVER = -11, DEAF = -12;
    private static final int LOUD = 12, LONGEST_TIME = CELLS * MOST_WARMTH;
    private static final int STEP_POWER = 2, WORD_POWER = 3, LOOK_POWER = 4, MAPPER_LOOK_POWER = 1;
    private static final int BLANK = 32, DIGIT_0 = 48, DIGIT_9 = 57;
    private static final int LETTERS = 4, H = 0, L = 1, W = 2, E = 3;
    private static final int MAP_SIDE = 4, MAP_PLACES = 16, FARTHEST_SHIFT = 3;
    private static final int PLANNED_BOATS = 3, PLAN_WAYS = 12, ODDS_WAYS = 8, COURSE_WAYS = 10;
    private static final int CHOICES = ROWS + 1;
    private static final long NOT_LEFT = 0xFEFEFEFEFEFEFEFEL, NOT_RIGHT = 0x7F7F7F7F7F7F7F7FL;

    private static final int[] STEP_X = {0, 0, -1, 1, 0};
    private static final int[] STEP_Y = {0, -1, 0, 0, 1};
    private static final int[] BOAT_KIND_ABOVE = {0, 0, 0, CARRIER, 0, LOST, 0};
    private static final int[] WORD_KIND_ABOVE = {0, 0, 0, 0, WISH, WISH};
    private static final int[] LETTER_BYTES = {72, 76, 87, 69};

    private final Row[] rows = new Row[ROWS];
    private final Row[] texts = new Row[TEXTS];
    private final Sea waters = new Sea();
    private final Boat[] fleet = new Boat[BOATS];
    private final Word[] words = new Word[MOST_WORDS];
    private final Look[] looks = new Look[MOST_LOOKS];
    private final RuleReader reader = new RuleReader();
    private final Planner planner = new Planner();
    private final Drift drift = new Drift();
    private final int[] findingCounts = new int[SIZE + 1];
    private int wordCount;
    private int lookCount;
    private int theTick;
    private int lots = 1;
    private int lastFinding;
    private int lastAsked;
    private long lastSet;
    private long lastUpper;
    private long lastLower = 1;

    public IceBoats() {
        for (int r = 0; r < ROWS; r++) {
            rows[r] = new Row();
        }
        for (int t = 0; t < TEXTS; t++) {
            texts[t] = new Row();
        }
        for (int b = 0; b < BOATS; b++) {
            fleet[b] = new Boat();
        }
    }

    // ---- 1 rows, texts, the sea

    public int row(int r, int n) {
        Row row = rowAt(r);
        if (row == null || n > MOST_PLACES) {
            return BAD;
        }
        if (n < 0) {
            return found(SIZE);
        }
        row.beAnew(n, 0);
        return n;
    }

    public int lay(int r, int i, int v) {
        Row row = rowAt(r);
        if (row == null) {
            return BAD;
        }
        if (row.isMissing()) {
            return found(NOTHING);
        }
        if (!row.holds(i, 1)) {
            return found(BEYOND);
        }
        int was = row.places[i];
        row.places[i] = v;
        return tellAsked(was);
    }

    public int tear(int r) {
        Row row = rowAt(r);
        if (row == null) {
            return BAD;
        }
        if (row.isMissing()) {
            return found(NOTHING);
        }
        row.size = -1;
        return 1;
    }

    public int copy(int r, int i, int to, int j, int n) {
        Row from = rowAt(r);
        Row into = rowAt(to);
        if (from == null || into == null) {
            return BAD;
        }
        if (n < 0) {
            return found(SIZE);
        }
        if (from.isMissing() || into.isMissing()) {
            return found(NOTHING);
        }
        if (!from.holds(i, n) || !into.holds(j, n)) {
            return found(BEYOND);
        }
        System.arraycopy(from.places, i, into.places, j, n);
        return 1;
    }

    public int mean(int r) {
        Row row = rowAt(r);
        if (row == null) {
            return BAD;
        }
        if (row.isMissing()) {
            return found(NOTHING);
        }
        if (row.size == 0) {
            return found(NOUGHT);
        }
        // 40 ints may sum to more than an int holds
        long sum = 0;
        for (int i = 0; i < row.size; i++) {
            sum += row.places[i];
        }
        return tellAsked((int) (sum / row.size));
    }

    public int text(int t, int n) {
        Row text = textAt(t);
        if (text == null || n > MOST_PLACES) {
            return BAD;
        }
        if (n < 0) {
            return found(SIZE);
        }
        text.beAnew(n, BLANK);
        return n;
    }

    public int put(int t, int i, int v) {
        Row text = textAt(t);
        if (text == null) {
            return BAD;
        }
        if (text.isMissing()) {
            return found(NOTHING);
        }
        if (!text.holds(i, 1)) {
            return found(BEYOND);
        }
        int was = text.places[i];
        text.places[i] = (byte) v;
        return was + 1000;
    }

    public int rock(int c, boolean is) {
        if (!isCell(c)) {
            return BAD;
        }
        if (is && (c == waters.hole || boatLiesIn(c))) {
            return STATE;
        }
        int was = waters.isRock(c) ? 1 : 0;
        waters.becomeRock(c, is);
        return was;
    }

    public int cell(int c, int current, int warmth, int ice) {
        if (!isCell(c) || !isWay(current) || warmth < 1 || warmth > MOST_WARMTH || !isIce(ice)) {
            return BAD;
        }
        waters.current[c] = current;
        waters.becomeWarm(c, warmth);
        waters.ice[c] = ice;
        return 1;
    }

    public int sea(int c, int what) {
        if (!isCell(c) || what < 0 || what > 4) {
            return BAD;
        }
        return tellAsked(waters.tellOf(c, what));
    }

    public int chart(int c, int ice) {
        if (!isCell(c) || (ice != NONE && !isIce(ice))) {
            return BAD;
        }
        waters.chart[c] = ice;
        return 1;
    }

    public int hole(int c) {
        if (!isCell(c)) {
            return BAD;
        }
        if (waters.isRock(c)) {
            return STATE;
        }
        int was = waters.hole;
        waters.hole = c;
        return was;
    }

    public int seed(int l) {
        lots = l;
        return 1;
    }

    // ---- 2 boats

    public int boat(int b, int kind, int c, int power) {
        Boat boat = boatAt(b);
        if (boat == null || kind < 0 || kind > ANCHOR || !isCell(c) || power < 0 || power > MOST_POWER) {
            return BAD;
        }
        if (waters.isRock(c)) {
            return STATE;
        }
        boat.letDown(kind, c, power, theTick);
        return 1;
    }

    public int told(int b, int what) {
        Boat boat = boatAt(b);
        if (boat == null || what < 0 || what > 5) {
            return BAD;
        }
        return tellAsked(tellOfBoat(b, boat, what));
    }

    public int mark(int b, int kind) {
        Boat boat = boatAt(b);
        if (boat == null || kind < MAPPER || kind > HOME) {
            return BAD;
        }
        if (boat.kind != kind && BOAT_KIND_ABOVE[boat.kind] != kind) {
            return found(UNLIKE);
        }
        switch (kind) {
            case MAPPER:
                return boat.looksMade;
            case CARRIER:
                return boat.wordsSaid;
            case DEAD:
                return looksOnlyHeldBy(b);
            case HOME:
                return boat.power;
            default:
                return boat.since;
        }
    }

    public int could(int b) {
        Boat boat = boatAt(b);
        if (boat == null) {
            return BAD;
        }
        return tellSet(boat.could);
    }

    public int go(int b, int way) {
        Boat boat = boatAt(b);
        if (boat == null || !isWay(way)) {
            return BAD;
        }
        if (!boat.isAble()) {
            return STATE;
        }
        boat.way = way;
        return 1;
    }

    public int tick() {
        if (theTick >= LAST_TICK) {
            return STATE;
        }
        theTick++;
        for (int b = 0; b < BOATS; b++) {
            if (fleet[b].isAble()) {
                moveBoat(fleet[b]);
            }
        }
        int heardNow = 0;
        for (int b = 0; b < BOATS; b++) {
            heardNow += hearWhatComes(b);
        }
        for (int b = 0; b < BOATS; b++) {
            fleet[b].failIfDue(theTick);
        }
        return heardNow;
    }

    public int look(int b) {
        Boat boat = boatAt(b);
        if (boat == null) {
            return BAD;
        }
        int due = boat.kind == MAPPER ? MAPPER_LOOK_POWER : LOOK_POWER;
        if (!boat.isAble() || boat.power < due) {
            return STATE;
        }
        if (lookCount >= MOST_LOOKS) {
            return FULL;
        }
        boat.power -= due;
        boat.looksMade++;
        boat.latestLook = new Look(boat.cell, waters.ice[boat.cell], theTick, 1 << b);
        looks[lookCount] = boat.latestLook;
        lookCount++;
        return lookCount - 1;
    }

    public int looked(int l, int what) {
        Look look = lookAt(l);
        if (look == null || what < 0 || what > 3) {
            return BAD;
        }
        return tellAsked(look.tellOf(what));
    }

    public int match(int b) {
        Boat boat = boatAt(b);
        if (boat == null) {
            return BAD;
        }
        Look latest = boat.latestLook;
        if (latest == null || latest.when != theTick) {
            return STATE;
        }
        boat.keepCould(waters.cellsChartedAs(latest.ice));
        return Long.bitCount(boat.could);
    }

    public int home(int b) {
        Boat boat = boatAt(b);
        if (boat == null) {
            return BAD;
        }
        if (!boat.isAble() || boat.cell != waters.hole) {
            return STATE;
        }
        boat.kind = HOME;
        return 1;
    }

    // ---- 3 words

    public int time(int a, int b) {
        if (!isOpenCell(a) || !isOpenCell(b)) {
            return BAD;
        }
        int least = waters.soundTime(a, b, LONGEST_TIME);
        return least == NONE ? found(NOTHING) : least;
    }

    public int say(int b, int kind, int v) {
        Boat boat = boatAt(b);
        if (boat == null || kind < 0 || kind > LEAVE || !fitsWord(kind, v)) {
            return BAD;
        }
        if (!boat.isAble() || boat.lastSpoke == theTick || boat.power < WORD_POWER) {
            return STATE;
        }
        if (kind == SEEN && !holdsLook(b, v)) {
            return STATE;
        }
        if (wordCount >= MOST_WORDS) {
            return FULL;
        }
        boat.power -= WORD_POWER;
        boat.lastSpoke = theTick;
        boat.wordsSaid++;
        boolean looksAtV = kind == SEEN || kind == WISH || kind == MEET;
        Word word = new Word(kind, b, theTick, looksAtV ? v : 0, boat.could);
        sendWord(word, boat.cell);
        words[wordCount] = word;
        wordCount++;
        return wordCount - 1;
    }

    public int word(int w, int what) {
        Word word = wordAt(w);
        if (word == null || what < 0 || what > 3) {
            return BAD;
        }
        return tellAsked(word.tellOf(what));
    }

    public int tells(int w, int kind) {
        Word word = wordAt(w);
        if (word == null || kind < FAR || kind > LEAVE) {
            return BAD;
        }
        if (word.kind != kind && WORD_KIND_ABOVE[word.kind] != kind) {
            return found(UNLIKE);
        }
        switch (kind) {
            case FAR:
                return Long.bitCount(word.sayerCould);
            case SEEN:
                return iceOfLook(word.v);
            case WISH:
                return word.hearers();
            case MEET:
                return word.v;
            default:
                return stepsBetween(fleet[word.sayer].cell, waters.hole);
        }
    }

    public int heard(int w, int b) {
        Word word = wordAt(w);
        if (word == null || !isBoat(b)) {
            return BAD;
        }
        return word.fate[b];
    }

    public int knows(int w, int a, int b, int c) {
        Word word = wordAt(w);
        if (word == null || !isBoat(a) || !isBoatOrNone(b) || !isBoatOrNone(c) || (b == NONE && c != NONE)) {
            return BAD;
        }
        if (b == NONE) {
            return word.knownBy(a);
        }
        if (c == NONE) {
            return knownOf(word, a, b);
        }
        return knownOfKnown(word, a, b, c);
    }

    public int allKnow(int w, int set, int deep) {
        Word word = wordAt(w);
        if (word == null || set < 1 || set > ALL_BOATS || deep < 1 || deep > 3) {
            return BAD;
        }
        int latest = 0;
        for (int a = 0; a < BOATS; a++) {
            if (!hasBit(set, a)) {
                continue;
            }
            int from = knownOfAll(word, a, set, deep);
            if (from == NONE) {
                return NONE;
            }
            latest = Math.max(latest, from);
        }
        return latest;
    }

    // ---- 4 rules

    public int fault(int t) {
        Row text = textAt(t);
        if (text == null) {
            return BAD;
        }
        if (text.isMissing()) {
            return found(NOTHING);
        }
        return reader.readRules(text);
    }

    public int rules(int b, int t) {
        Boat boat = boatAt(b);
        Row text = textAt(t);
        if (boat == null || text == null) {
            return BAD;
        }
        if (text.isMissing()) {
            return found(NOTHING);
        }
        if (reader.readRules(text) != NONE) {
            return STATE;
        }
        int told = 0;
        for (int k = 0; k < LETTERS; k++) {
            boat.rules[k] = reader.numbers[k];
            told += boat.rules[k] == NONE ? 0 : 1;
        }
        return told;
    }

    public int rule(int b, int what) {
        Boat boat = boatAt(b);
        if (boat == null || what < 0 || what >= LETTERS) {
            return BAD;
        }
        return boat.rules[what];
    }

    public int asks(int b) {
        Boat boat = boatAt(b);
        if (boat == null) {
            return BAD;
        }
        if (!boat.isAble()) {
            return STATE;
        }
        int least = leastCell(boat.could);
        int reserve = boat.rules[H];
        if (reserve != NONE && boat.power <= reserve + STEP_POWER * stepsBetween(least, waters.hole)) {
            return 10 + waters.wayNearer(least, waters.hole);
        }
        if (isDueNow(boat.rules[W])) {
            return 2;
        }
        return isDueNow(boat.rules[E]) ? 3 : 0;
    }

    // ---- 5 maps, plans, odds, courses

    public int shifts(int one, int other, int k) {
        Row first = rowAt(one);
        Row second = rowAt(other);
        if (first == null || second == null || k < 1 || k > MAP_PLACES) {
            return BAD;
        }
        if (first.isMissing() || second.isMissing()) {
            return found(NOTHING);
        }
        if (first.size != MAP_PLACES || second.size != MAP_PLACES) {
            return found(SIZE);
        }
        if (!isMap(first) || !isMap(second)) {
            return found(UNLIKE);
        }
        int agreeing = 0;
        int told = 0;
        for (int y = -FARTHEST_SHIFT; y <= FARTHEST_SHIFT; y++) {
            for (int x = -FARTHEST_SHIFT; x <= FARTHEST_SHIFT; x++) {
                if (alikePlaces(first, second, x, y) < k) {
                    continue;
                }
                if (agreeing == 0) {
                    told = 10 * (x + FARTHEST_SHIFT) + y + FARTHEST_SHIFT;
                }
                agreeing++;
            }
        }
        lastAsked = told;
        return agreeing;
    }

    public int mapped(int set) {
        if (set < 0 || set > ALL_BOATS) {
            return BAD;
        }
        long seen = 0;
        for (int l = 0; l < lookCount; l++) {
            if ((looks[l].holders & set) != 0) {
                seen |= 1L << looks[l].cell;
            }
        }
        return tellSet(seen);
    }

    public int plan(int boats, int set) {
        if (boats < 1 || boats > ALL_BOATS || set < 0 || set > ALL_ROWS) {
            return BAD;
        }
        if (Integer.bitCount(boats) > PLANNED_BOATS) {
            return SPENT;
        }
        int fault = faultOfPlanRows(set);
        if (fault != 0) {
            return found(fault);
        }
        planner.forget();
        int place = 0;
        for (int b = 0; b < BOATS; b++) {
            if (hasBit(boats, b)) {
                offerRows(place, b, set);
                place++;
            }
        }
        planner.choose();
        lastAsked = planner.choice;
        return planner.most;
    }

    public int odds(int c, int r) {
        Row row = rowAt(r);
        if (!isOpenCell(c) || row == null) {
            return BAD;
        }
        int fault = faultOfWays(row, ODDS_WAYS);
        if (fault != 0) {
            return found(fault);
        }
        drift.startIn(c);
        long all = 1;
        for (int i = 0; i < row.size; i++) {
            drift.follow(waters, row.places[i], 3);
            all *= 4;
        }
        tellShare(drift.weights[waters.hole], all);
        return 1;
    }

    public int courses(int c, int r, int seen) {
        Row row = rowAt(r);
        Row sights = rowAt(seen);
        if (!isOpenCell(c) || row == null || sights == null) {
            return BAD;
        }
        int fault = faultOfCourses(row, sights);
        if (fault != 0) {
            return found(fault);
        }
        drift.startIn(c);
        for (int i = 0; i < row.size; i++) {
            drift.follow(waters, row.places[i], 1);
            keepWhatWasSeen(sights, i + 1);
        }
        lastAsked = drift.leastOddRow();
        return drift.sumOfWeights();
    }

    // ---- 6 what is told

    public int asked() {
        return lastAsked;
    }

    public long set() {
        return lastSet;
    }

    public long upper() {
        return lastUpper;
    }

    public long lower() {
        return lastLower;
    }

    public int count(int what) {
        switch (what) {
            case 0:
                return theTick;
            case 1:
                return ableBoats();
            case 2:
                return wordCount;
            case 3:
                return lookCount;
            case 4:
                return boatsOfKind(LOST) + boatsOfKind(DEAD);
            case 5:
                return boatsOfKind(HOME);
            case 6:
                return rowsThere(rows);
            case 7:
                return rowsThere(texts);
            default:
                return BAD;
        }
    }

    public int finding() {
        return lastFinding;
    }

    public int findings(int f) {
        if (f < NOTHING || f > SIZE) {
            return BAD;
        }
        return findingCounts[f];
    }

    public long digest() {
        long h = 17;
        for (int what = 0; what <= 7; what++) {
            h = 31 * h + count(what);
        }
        for (int c = 0; c < CELLS; c++) {
            for (int what = 0; what <= 4; what++) {
                h = 31 * h + waters.tellOf(c, what);
            }
        }
        h = 31 * h + waters.hole;
        h = digestBoats(h);
        h = digestWords(h);
        h = digestLooks(h);
        h = digestRows(h, rows);
        return digestRows(h, texts);
    }

    // ---- what a number is, and what it names

    private static boolean isCell(int c) {
        return c >= 0 && c < CELLS;
    }

    private boolean isOpenCell(int c) {
        return isCell(c) && !waters.isRock(c);
    }

    private static boolean isWay(int way) {
        return way >= 0 && way < WAYS;
    }

    private static boolean isIce(int ice) {
        return ice >= 0 && ice <= MOST_ICE;
    }

    private static boolean isBoat(int b) {
        return b >= 0 && b < BOATS;
    }

    private static boolean isBoatOrNone(int b) {
        return b == NONE || isBoat(b);
    }

    private static boolean hasBit(long bits, int i) {
        return (bits >>> i & 1) == 1;
    }

    private Row rowAt(int r) {
        return r >= 0 && r < ROWS ? rows[r] : null;
    }

    private Row textAt(int t) {
        return t >= 0 && t < TEXTS ? texts[t] : null;
    }

    private Boat boatAt(int b) {
        return isBoat(b) ? fleet[b] : null;
    }

    private Word wordAt(int w) {
        return w >= 0 && w < wordCount ? words[w] : null;
    }

    private Look lookAt(int l) {
        return l >= 0 && l < lookCount ? looks[l] : null;
    }

    // ---- how an answer is told

    private int found(int f) {
        lastFinding = f;
        findingCounts[f]++;
        return FINDING;
    }

    private int tellAsked(int v) {
        lastAsked = v;
        return 1;
    }

    private int tellSet(long cells) {
        lastSet = cells;
        return Long.bitCount(cells);
    }

    // The lower number is a power of 2, so halving alone leads to lowest terms (and 0 to 0 by 1).
    private void tellShare(long part, long all) {
        long over = part;
        long under = all;
        for (int halved = 0; halved < 2 * ODDS_WAYS && under > 1 && over % 2 == 0; halved++) {
            over /= 2;
            under /= 2;
        }
        lastUpper = over;
        lastLower = under;
    }

    // ---- places in the sea

    private static int stepsBetween(int a, int b) {
        return Math.abs(a % SIDE - b % SIDE) + Math.abs(a / SIDE - b / SIDE);
    }

    // The bits below the lowest one are as many as its number tells.
    private static int leastCell(long cells) {
        return cells == 0 ? 0 : Long.bitCount((cells & -cells) - 1);
    }

    private boolean boatLiesIn(int c) {
        for (int b = 0; b < BOATS; b++) {
            if (fleet[b].cell == c) {
                return true;
            }
        }
        return false;
    }

    // ---- boats, looks

    private int tellOfBoat(int b, Boat boat, int what) {
        switch (what) {
            case 0:
                return boat.kind;
            case 1:
                return boat.cell;
            case 2:
                return boat.power;
            case 3:
                return Long.bitCount(boat.could);
            case 4:
                return looksHeldBy(b);
            default:
                return boat.lastHeard;
        }
    }

    private int looksHeldBy(int b) {
        int held = 0;
        for (int l = 0; l < lookCount; l++) {
            held += hasBit(looks[l].holders, b) ? 1 : 0;
        }
        return held;
    }

    private int looksOnlyHeldBy(int b) {
        int held = 0;
        for (int l = 0; l < lookCount; l++) {
            held += looks[l].holders == 1 << b ? 1 : 0;
        }
        return held;
    }

    private boolean holdsLook(int b, int l) {
        Look look = lookAt(l);
        return look != null && hasBit(look.holders, b);
    }

    private void holdLook(int b, int l) {
        Look look = lookAt(l);
        if (look != null) {
            look.holders |= 1 << b;
        }
    }

    private int iceOfLook(int l) {
        Look look = lookAt(l);
        return look == null ? NONE : look.ice;
    }

    private int ableBoats() {
        int able = 0;
        for (int b = 0; b < BOATS; b++) {
            able += fleet[b].isAble() ? 1 : 0;
        }
        return able;
    }

    private int boatsOfKind(int kind) {
        int alike = 0;
        for (int b = 0; b < BOATS; b++) {
            alike += fleet[b].kind == kind ? 1 : 0;
        }
        return alike;
    }

    private static int rowsThere(Row[] all) {
        int there = 0;
        for (int r = 0; r < all.length; r++) {
            there += all[r].isMissing() ? 0 : 1;
        }
        return there;
    }

    // ---- a TICK

    private void moveBoat(Boat boat) {
        int way = boat.way == NONE ? 0 : boat.way;
        boat.way = NONE;
        if (boat.kind == ANCHOR) {
            return;
        }
        if (way != 0) {
            if (boat.power < STEP_POWER) {
                way = 0;
            } else {
                boat.power -= STEP_POWER;
            }
        }
        boat.cell = waters.leadsTo(boat.cell, way);
        if (lotCarries()) {
            boat.cell = waters.carriedFrom(boat.cell);
        }
        boat.could = waters.couldBehind(boat.could, way);
    }

    private boolean lotCarries() {
        lots = lots * 1103515245 + 12345;
        return (lots >>> 16 & 0x7FFF) % 4 != 0;
    }

    private int hearWhatComes(int b) {
        int coming = 0;
        Word latest = null;
        for (int w = 0; w < wordCount; w++) {
            if (words[w].comesAt(b, theTick)) {
                coming++;
                latest = words[w];
            }
        }
        if (latest == null) {
            return 0;
        }
        if (coming > 1) {
            loseMetWords(b);
            return 0;
        }
        if (!fleet[b].isAble()) {
            latest.fate[b] = DEAF;
            return 0;
        }
        latest.fate[b] = theTick;
        fleet[b].lastHeard = theTick;
        takeIn(latest, b, fleet[b]);
        return 1;
    }

    private void loseMetWords(int b) {
        for (int w = 0; w < wordCount; w++) {
            if (words[w].comesAt(b, theTick)) {
                words[w].fate[b] = MET;
            }
        }
    }

    // Its WAY was taken as it went in this TICK, so a BOAT that hears was told none yet; a go() behind it wins.
    private void takeIn(Word word, int b, Boat boat) {
        switch (word.kind) {
            case FAR:
                boat.keepCould(waters.cellsAtTime(word.sayerCould, theTick - word.when));
                break;
            case SEEN:
                holdLook(b, word.v);
                break;
            case WISH:
                boat.way = word.v;
                break;
            case MEET:
                boat.way = waters.wayNearer(leastCell(boat.could), word.v);
                break;
            case LEAVE:
                boat.way = waters.wayNearer(leastCell(boat.could), waters.hole);
                break;
            default:
                break;
        }
    }

    // ---- words, who KNOWS

    private boolean fitsWord(int kind, int v) {
        switch (kind) {
            case SEEN:
                return lookAt(v) != null;
            case WISH:
                return isWay(v);
            case MEET:
                return isCell(v);
            default:
                return true;
        }
    }

    private void sendWord(Word word, int from) {
        for (int b = 0; b < BOATS; b++) {
            int took = NONE;
            if (b != word.sayer && fleet[b].isAble()) {
                took = waters.soundTime(from, fleet[b].cell, LOUD);
            }
            word.fate[b] = took == NONE ? NEVER : NONE;
            word.comes[b] = word.when + Math.max(took, 1);
        }
    }

    private int knownOf(Word word, int a, int b) {
        int from = word.knownBy(b);
        return a == b ? from : firstHeardFrom(a, b, from);
    }

    private int knownOfKnown(Word word, int a, int b, int c) {
        int from = knownOf(word, b, c);
        return a == b ? from : firstHeardFrom(a, b, from);
    }

    private int firstHeardFrom(int hearer, int sayer, int since) {
        int first = NONE;
        if (since == NONE) {
            return first;
        }
        for (int w = 0; w < wordCount; w++) {
            Word word = words[w];
            int at = word.fate[hearer];
            if (word.sayer == sayer && word.when >= since && at >= 0 && (first == NONE || at < first)) {
                first = at;
            }
        }
        return first;
    }

    private int knownOfAll(Word word, int a, int set, int deep) {
        int latest = word.knownBy(a);
        for (int b = 0; b < BOATS && deep > 1 && latest != NONE; b++) {
            if (hasBit(set, b)) {
                latest = laterOrNone(latest, knownOf(word, a, b));
            }
        }
        for (int i = 0; i < BOATS * BOATS && deep > 2 && latest != NONE; i++) {
            if (hasBit(set, i / BOATS) && hasBit(set, i % BOATS)) {
                latest = laterOrNone(latest, knownOfKnown(word, a, i / BOATS, i % BOATS));
            }
        }
        return latest;
    }

    private static int laterOrNone(int one, int other) {
        return one == NONE || other == NONE ? NONE : Math.max(one, other);
    }

    // ---- rules, maps, plans, courses

    private boolean isDueNow(int each) {
        return each > 0 && theTick % each == 0;
    }

    private static boolean isMap(Row row) {
        for (int i = 0; i < row.size; i++) {
            if (row.places[i] != NONE && !isIce(row.places[i])) {
                return false;
            }
        }
        return true;
    }

    // 0, too, if a place is told unlike: no SHIFT AGREES with fewer than 1 place.
    private static int alikePlaces(Row first, Row second, int x, int y) {
        int alike = 0;
        for (int i = 0; i < MAP_PLACES; i++) {
            int toX = i % MAP_SIDE + x;
            int toY = i / MAP_SIDE + y;
            if (toX < 0 || toX >= MAP_SIDE || toY < 0 || toY >= MAP_SIDE) {
                continue;
            }
            int one = first.places[i];
            int other = second.places[MAP_SIDE * toY + toX];
            if (one == NONE || other == NONE) {
                continue;
            }
            if (one != other) {
                return 0;
            }
            alike++;
        }
        return alike;
    }

    private static boolean areWays(Row row) {
        for (int i = 0; i < row.size; i++) {
            if (!isWay(row.places[i])) {
                return false;
            }
        }
        return true;
    }

    private static int faultOfWays(Row row, int most) {
        if (row.isMissing()) {
            return NOTHING;
        }
        if (row.size < 1 || row.size > most) {
            return SIZE;
        }
        return areWays(row) ? 0 : UNLIKE;
    }

    // A ROW that is missing is told ahead of one of a wrong size, and that ahead of a wrong WAY, whichever ROW it is in.
    private int faultOfPlanRows(int set) {
        int fault = 0;
        for (int r = 0; r < ROWS; r++) {
            int own = hasBit(set, r) ? faultOfWays(rows[r], PLAN_WAYS) : 0;
            if (own == NOTHING) {
                return NOTHING;
            }
            if (own == SIZE || fault == 0) {
                fault = own;
            }
        }
        return fault;
    }

    private void offerRows(int place, int b, int set) {
        for (int r = 0; r < ROWS; r++) {
            if (hasBit(set, r) && fleet[b].power >= powerFor(rows[r])) {
                planner.offer(place, r + 1, waters.cellsOnTheWay(fleet[b].cell, rows[r]));
            }
        }
    }

    private static int powerFor(Row ways) {
        int due = 0;
        for (int i = 0; i < ways.size; i++) {
            due += ways.places[i] == 0 ? 0 : STEP_POWER;
        }
        return due;
    }

    private static int faultOfCourses(Row row, Row sights) {
        if (row.isMissing() || sights.isMissing()) {
            return NOTHING;
        }
        if (row.size < 1 || row.size > COURSE_WAYS || sights.size % 2 != 0) {
            return SIZE;
        }
        return areWays(row) && areSights(sights, row.size) ? 0 : UNLIKE;
    }

    private static boolean areSights(Row sights, int ways) {
        for (int i = 0; i + 1 < sights.size; i += 2) {
            if (sights.places[i] < 1 || sights.places[i] > ways || !isCell(sights.places[i + 1])) {
                return false;
            }
        }
        return true;
    }

    private void keepWhatWasSeen(Row sights, int behind) {
        for (int i = 0; i + 1 < sights.size; i += 2) {
            if (sights.places[i] == behind) {
                drift.keepOnly(sights.places[i + 1]);
            }
        }
    }

    // ---- the digest

    private long digestBoats(long start) {
        long h = start;
        for (int b = 0; b < BOATS; b++) {
            for (int what = 0; what <= 5; what++) {
                h = 31 * h + tellOfBoat(b, fleet[b], what);
            }
            h = 31 * h + fleet[b].could;
            for (int k = 0; k < LETTERS; k++) {
                h = 31 * h + fleet[b].rules[k];
            }
        }
        return h;
    }

    private long digestWords(long start) {
        long h = start;
        for (int w = 0; w < wordCount; w++) {
            for (int what = 0; what <= 3; what++) {
                h = 31 * h + words[w].tellOf(what);
            }
            for (int b = 0; b < BOATS; b++) {
                h = 31 * h + words[w].fate[b];
            }
        }
        return h;
    }

    private long digestLooks(long start) {
        long h = start;
        for (int l = 0; l < lookCount; l++) {
            for (int what = 0; what <= 3; what++) {
                h = 31 * h + looks[l].tellOf(what);
            }
        }
        return h;
    }

    private static long digestRows(long start, Row[] all) {
        long h = start;
        for (int r = 0; r < all.length; r++) {
            h = 31 * h + all[r].size;
            for (int i = 0; i < all[r].size; i++) {
                h = 31 * h + all[r].places[i];
            }
        }
        return h;
    }

    /** A ROW, or a TEXT (whose places are bytes). */
    private static final class Row {
        final int[] places = new int[MOST_PLACES];
        int size = -1;

        boolean isMissing() {
            return size < 0;
        }

        // By subtraction, since i + n may wrap.
        boolean holds(int i, int n) {
            return i >= 0 && n >= 0 && n <= size && i <= size - n;
        }

        void beAnew(int n, int v) {
            size = n;
            for (int i = 0; i < n; i++) {
                places[i] = v;
            }
        }
    }

    /** The CELLS, THE HOLE and how a WAY, a CURRENT or a sound leads from one CELL to another. */
    private static final class Sea {
        final int[] current = new int[CELLS];
        final int[] warmth = new int[CELLS];
        final int[] ice = new int[CELLS];
        final int[] chart = new int[CELLS];
        final long[] cellsOfWarmth = new long[MOST_WARMTH + 1];
        final Wave wave = new Wave();
        long rocks;
        int hole;

        Sea() {
            for (int c = 0; c < CELLS; c++) {
                warmth[c] = 1;
                chart[c] = NONE;
            }
            cellsOfWarmth[1] = -1L;
        }

        boolean isRock(int c) {
            return hasBit(rocks, c);
        }

        void becomeRock(int c, boolean is) {
            rocks = is ? rocks | 1L << c : rocks & ~(1L << c);
        }

        void becomeWarm(int c, int degree) {
            cellsOfWarmth[warmth[c]] &= ~(1L << c);
            cellsOfWarmth[degree] |= 1L << c;
            warmth[c] = degree;
        }

        int tellOf(int c, int what) {
            switch (what) {
                case 0:
                    return isRock(c) ? 1 : 0;
                case 1:
                    return current[c];
                case 2:
                    return warmth[c];
                case 3:
                    return ice[c];
                default:
                    return chart[c];
            }
        }

        int leadsTo(int c, int way) {
            int x = c % SIDE + STEP_X[way];
            int y = c / SIDE + STEP_Y[way];
            if (x < 0 || x >= SIDE || y < 0 || y >= SIDE || isRock(SIDE * y + x)) {
                return c;
            }
            return SIDE * y + x;
        }

        int carriedFrom(int c) {
            return leadsTo(c, current[c]);
        }

        long couldBehind(long could, int way) {
            long next = 0;
            for (int c = 0; c < CELLS; c++) {
                if (hasBit(could, c)) {
                    int to = leadsTo(c, way);
                    next |= 1L << to | 1L << carriedFrom(to);
                }
            }
            return next;
        }

        int wayNearer(int from, int to) {
            int steps = stepsBetween(from, to);
            for (int way = 1; way < WAYS; way++) {
                if (stepsBetween(leadsTo(from, way), to) < steps) {
                    return way;
                }
            }
            return 0;
        }

        long cellsOnTheWay(int from, Row ways) {
            long cells = 1L << from;
            int at = from;
            for (int i = 0; i < ways.size; i++) {
                at = leadsTo(at, ways.places[i]);
                cells |= 1L << at;
            }
            return cells;
        }

        long cellsChartedAs(int seenIce) {
            long cells = 0;
            for (int c = 0; c < CELLS; c++) {
                if (chart[c] == NONE || chart[c] == seenIce) {
                    cells |= 1L << c;
                }
            }
            return cells;
        }

        int soundTime(int from, int to, int most) {
            wave.beginIn(from);
            for (int t = 0; t <= most; t++) {
                if (hasBit(wave.fronts[0], to)) {
                    return t;
                }
                wave.spread(this);
            }
            return NONE;
        }

        // A sound within one CELL is heard a TICK later, as if it had taken 1.
        long cellsAtTime(long sources, int took) {
            long cells = took == 1 ? sources : 0;
            for (int c = 0; c < CELLS; c++) {
                if (!hasBit(sources, c)) {
                    continue;
                }
                wave.beginIn(c);
                for (int t = 0; t < took; t++) {
                    wave.spread(this);
                }
                cells |= wave.fronts[0];
            }
            return cells;
        }
    }

    /** A sound on its way: which CELLS it comes to just now, and 1, 2, 3 TICKS ago. */
    private static final class Wave {
        final long[] fronts = new long[MOST_WARMTH];
        long reached;

        void beginIn(int c) {
            for (int k = 1; k < MOST_WARMTH; k++) {
                fronts[k] = 0;
            }
            fronts[0] = 1L << c;
            reached = fronts[0];
        }

        // A CELL of WARMTH w is come to now if a CELL beside it was w TICKS ago, and none led to it earlier.
        void spread(Sea sea) {
            long next = 0;
            for (int w = 1; w <= MOST_WARMTH; w++) {
                next |= besides(fronts[w - 1]) & sea.cellsOfWarmth[w];
            }
            next &= ~(reached | sea.rocks);
            for (int k = MOST_WARMTH - 1; k > 0; k--) {
                fronts[k] = fronts[k - 1];
            }
            fronts[0] = next;
            reached |= next;
        }

        // The masks keep a sound from going around from one side of the sea to the other.
        static long besides(long cells) {
            return cells >>> SIDE | cells << SIDE | (cells & NOT_LEFT) >>> 1 | (cells & NOT_RIGHT) << 1;
        }
    }

    /** A BOAT with what it knows of itself. */
    private static final class Boat {
        final int[] rules = {NONE, NONE, NONE, NONE};
        int kind;
        int cell;
        int power = 100;
        long could = 1;
        int way = NONE;
        int lastHeard;
        int lastSpoke = NONE;
        int since;
        int looksMade;
        int wordsSaid;
        Look latestLook;

        boolean isAble() {
            return kind <= ANCHOR;
        }

        void letDown(int newKind, int c, int newPower, int now) {
            kind = newKind;
            cell = c;
            power = newPower;
            could = 1L << c;
            way = NONE;
            lastHeard = now;
            since = now;
        }

        // What would leave no CELL at all can't be true of it, and is not believed.
        void keepCould(long cells) {
            if ((could & cells) != 0) {
                could &= cells;
            }
        }

        void failIfDue(int now) {
            if (!isAble()) {
                return;
            }
            if (power == 0) {
                kind = DEAD;
                since = now;
            } else if (rules[L] != NONE && now - lastHeard > rules[L]) {
                kind = LOST;
                since = now;
            }
        }
    }

    /** A word, and how it is with it for each BOAT. */
    private static final class Word {
        final int kind;
        final int sayer;
        final int when;
        final int v;
        final long sayerCould;
        final int[] comes = new int[BOATS];
        final int[] fate = new int[BOATS];

        Word(int kind, int sayer, int when, int v, long sayerCould) {
            this.kind = kind;
            this.sayer = sayer;
            this.when = when;
            this.v = v;
            this.sayerCould = sayerCould;
        }

        boolean comesAt(int b, int now) {
            return fate[b] == NONE && comes[b] == now;
        }

        int knownBy(int b) {
            if (b == sayer) {
                return when;
            }
            return fate[b] >= 0 ? fate[b] : NONE;
        }

        int hearers() {
            int all = 0;
            for (int b = 0; b < BOATS; b++) {
                all += fate[b] >= 0 ? 1 : 0;
            }
            return all;
        }

        int tellOf(int what) {
            switch (what) {
                case 0:
                    return kind;
                case 1:
                    return sayer;
                case 2:
                    return when;
                default:
                    return v;
            }
        }
    }

    /** A LOOK at the ICE above a CELL, and the BOATS (bits) that HOLD it. */
    private static final class Look {
        final int cell;
        final int ice;
        final int when;
        int holders;

        Look(int cell, int ice, int when, int holders) {
            this.cell = cell;
            this.ice = ice;
            this.when = when;
            this.holders = holders;
        }

        int tellOf(int what) {
            switch (what) {
                case 0:
                    return cell;
                case 1:
                    return ice;
                case 2:
                    return holders;
                default:
                    return when;
            }
        }
    }

    /** Reads RULES out of a TEXT: the number behind each letter, or where the TEXT is at FAULT. */
    private static final class RuleReader {
        final int[] numbers = new int[LETTERS];

        int readRules(Row text) {
            for (int k = 0; k < LETTERS; k++) {
                numbers[k] = NONE;
            }
            int at = 0;
            while (at < text.size) {
                if (text.places[at] == BLANK) {
                    at++;
                    continue;
                }
                int letter = letterOf(text.places[at]);
                if (letter == NONE) {
                    return at;
                }
                int end = endOfDigits(text, at + 1);
                if (end == at + 1) {
                    return end;
                }
                int n = numberIn(text, at + 1, end);
                if (n == 0 && (letter == W || letter == E)) {
                    return end;
                }
                numbers[letter] = n;
                at = end;
            }
            return NONE;
        }

        static int letterOf(int v) {
            for (int k = 0; k < LETTERS; k++) {
                if (LETTER_BYTES[k] == v) {
                    return k;
                }
            }
            return NONE;
        }

        static int endOfDigits(Row text, int from) {
            int end = from;
            while (end < text.size && end < from + 3 && text.places[end] >= DIGIT_0 && text.places[end] <= DIGIT_9) {
                end++;
            }
            return end;
        }

        static int numberIn(Row text, int from, int end) {
            int n = 0;
            for (int i = from; i < end; i++) {
                n = 10 * n + text.places[i] - DIGIT_0;
            }
            return n;
        }
    }

    /** Chooses for up to three BOATS which ROW each goes by (choice 0: none), so that most CELLS are come to. */
    private static final class Planner {
        final long[] cells = new long[PLANNED_BOATS * CHOICES];
        final boolean[] offered = new boolean[PLANNED_BOATS * CHOICES];
        int most;
        int choice;

        void forget() {
            for (int i = 0; i < offered.length; i++) {
                offered[i] = i % CHOICES == 0;
            }
        }

        void offer(int place, int which, long cellsOnIt) {
            cells[place * CHOICES + which] = cellsOnIt;
            offered[place * CHOICES + which] = true;
        }

        // The first BOAT's choice turns slowest, so that of alike ones the first by BOATS is kept.
        void choose() {
            most = -1;
            for (int one = 0; one < CHOICES; one++) {
                for (int two = CHOICES; two < 2 * CHOICES && offered[one]; two++) {
                    for (int three = 2 * CHOICES; three < 3 * CHOICES && offered[two]; three++) {
                        weigh(one, two, three);
                    }
                }
            }
        }

        void weigh(int one, int two, int three) {
            int all = Long.bitCount(cells[one] | cells[two] | cells[three]);
            if (offered[three] && all > most) {
                most = all;
                choice = one + 10 * (two - CHOICES) + 100 * (three - 2 * CHOICES);
            }
        }
    }

    /**
     * Where all rows of carried or not lead: for each CELL how much they weigh together, and the least odd of them.
     * Rows that meet in a CELL go on alike, so the least odd of them stays so and one of each CELL is enough.
     */
    private static final class Drift {
        static final int ODD_UNIT = 1 << COURSE_WAYS;
        static final int ODDEST = ODD_UNIT * (COURSE_WAYS + 1);
        int[] weights = new int[CELLS];
        int[] oddness = new int[CELLS];
        int[] nextWeights = new int[CELLS];
        int[] nextOddness = new int[CELLS];

        void startIn(int c) {
            clearNext();
            swapNext();
            weights[c] = 1;
            oddness[c] = 0;
        }

        void follow(Sea sea, int way, int carriedWeight) {
            clearNext();
            for (int c = 0; c < CELLS; c++) {
                if (weights[c] == 0) {
                    continue;
                }
                int to = sea.leadsTo(c, way);
                int odd = oddness[c];
                // How many were not carried stands above the row's bits, which move up by one.
                int longer = odd / ODD_UNIT * ODD_UNIT + odd % ODD_UNIT * 2;
                lead(sea.carriedFrom(to), weights[c] * carriedWeight, longer);
                lead(to, weights[c], longer + ODD_UNIT + 1);
            }
            swapNext();
        }

        void lead(int to, int weight, int odd) {
            nextWeights[to] += weight;
            nextOddness[to] = Math.min(nextOddness[to], odd);
        }

        void keepOnly(int cell) {
            for (int c = 0; c < CELLS; c++) {
                if (c != cell) {
                    weights[c] = 0;
                    oddness[c] = ODDEST;
                }
            }
        }

        int sumOfWeights() {
            int sum = 0;
            for (int c = 0; c < CELLS; c++) {
                sum += weights[c];
            }
            return sum;
        }

        int leastOddRow() {
            int least = ODDEST;
            for (int c = 0; c < CELLS; c++) {
                least = Math.min(least, oddness[c]);
            }
            return least == ODDEST ? 0 : least % ODD_UNIT;
        }

        void clearNext() {
            for (int c = 0; c < CELLS; c++) {
                nextWeights[c] = 0;
                nextOddness[c] = ODDEST;
            }
        }

        void swapNext() {
            int[] spareWeights = weights;
            int[] spareOddness = oddness;
            weights = nextWeights;
            oddness = nextOddness;
            nextWeights = spareWeights;
            nextOddness = spareOddness;
        }
    }
}
