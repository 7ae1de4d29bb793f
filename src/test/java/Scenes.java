import java.util.List;
import java.util.Random;

/** Calls for FuzzTest that belong together, since calls drawn one by one seldom find the ROWS, TEXTS and BOATS they need. */
final class Scenes {
    private Scenes() {
    }

    private static void add(List<Object[]> due, String name, Object... numbers) {
        Object[] call = new Object[numbers.length + 1];
        call[0] = name;
        System.arraycopy(numbers, 0, call, 1, numbers.length);
        due.add(call);
    }

    private static void addRow(List<Object[]> due, int r, int[] places) {
        add(due, "row", r, places.length);
        for (int i = 0; i < places.length; i++) {
            if (places[i] != 0) {
                add(due, "lay", r, i, places[i]);
            }
        }
    }

    /** A sea with currents, rock and warmth, and BOATS in it. */
    static void warmUp(Random random, List<Object[]> due) {
        int dense = random.nextInt(4);
        int warm = 1 + random.nextInt(4);
        for (int c = 1; c < 64; c++) {
            if (random.nextInt(4) < dense) {
                add(due, "cell", c, random.nextInt(5), 1 + random.nextInt(warm), random.nextInt(3));
            }
            if (random.nextInt(16) < dense) {
                add(due, "rock", c, true);
            }
        }
        int near = random.nextBoolean() ? 16 : 64;
        for (int b = 0; b < 6; b++) {
            int power = random.nextInt(3) == 0 ? random.nextInt(12) : random.nextInt(150);
            add(due, "boat", b, random.nextInt(4), random.nextInt(near), power);
        }
    }

    static void draw(Random random, NaiveBoats naive, List<Object[]> due) {
        switch (random.nextInt(9)) {
            case 0 -> rules(random, due);
            case 1 -> courses(random, naive, due);
            case 2 -> odds(random, naive, due);
            case 3 -> maps(random, due);
            case 4 -> plans(random, due);
            case 5 -> matches(random, naive, due);
            case 6 -> talk(random, naive, due);
            case 7 -> crowd(random, due);
            default -> homing(random, naive, due);
        }
    }

    private static void rules(Random random, List<Object[]> due) {
        StringBuilder signs = new StringBuilder();
        for (int i = random.nextInt(5); i > 0; i--) {
            signs.append("  ", 0, random.nextInt(3)).append("HLWE".charAt(random.nextInt(4)));
            signs.append(random.nextInt(random.nextInt(3) == 0 ? 130 : 12)).append("  ", 0, random.nextInt(3));
        }
        if (random.nextInt(4) == 0) {
            signs.append("HLWE 07X".charAt(random.nextInt(8)));
        }
        int t = random.nextInt(4);
        add(due, "text", t, signs.length());
        for (int i = 0; i < signs.length(); i++) {
            if (signs.charAt(i) != ' ') {
                add(due, "put", t, i, (int) signs.charAt(i));
            }
        }
        add(due, "fault", t);
        for (int b = random.nextInt(6); b < 6; b++) {
            add(due, "rules", b, t);
            add(due, "rule", b, random.nextInt(4));
            add(due, "asks", b);
        }
        add(due, "tick");
        for (int b = 0; b < 6; b++) {
            add(due, "asks", b);
        }
    }

    private static int[] ways(Random random, int most) {
        int[] ways = new int[1 + random.nextInt(most)];
        for (int i = 0; i < ways.length; i++) {
            ways[i] = random.nextInt(5);
        }
        return ways;
    }

    // where a BOAT is behind each WAY, carried by lots
    private static int[] driven(Random random, NaiveBoats naive, int from, int[] ways) {
        int[] at = new int[ways.length + 1];
        at[0] = from;
        for (int i = 0; i < ways.length; i++) {
            at[i + 1] = naive.lead(at[i], ways[i]);
            if (random.nextInt(3) != 0) {
                at[i + 1] = naive.lead(at[i + 1], naive.current[at[i + 1]]);
            }
        }
        return at;
    }

    private static void courses(Random random, NaiveBoats naive, List<Object[]> due) {
        int[] ways = ways(random, 11);
        int from = random.nextInt(64);
        int[] at = driven(random, naive, from, ways);
        int[] seen = new int[2 * random.nextInt(4) + (random.nextInt(20) == 0 ? 1 : 0)];
        for (int i = 0; i + 1 < seen.length; i += 2) {
            int behind = 1 + random.nextInt(ways.length);
            seen[i] = behind;
            seen[i + 1] = random.nextInt(8) == 0 ? random.nextInt(66) - 1 : at[behind];
        }
        addRow(due, 0, ways);
        addRow(due, 1, seen);
        add(due, "courses", from, 0, 1);
    }

    private static void odds(Random random, NaiveBoats naive, List<Object[]> due) {
        int[] ways = ways(random, 9);
        int from = random.nextInt(64);
        int[] at = driven(random, naive, from, ways);
        addRow(due, 2, ways);
        add(due, "hole", at[ways.length]);
        add(due, "odds", from, 2);
        add(due, "upper");
        add(due, "lower");
    }

    private static void maps(Random random, List<Object[]> due) {
        int[][] sea = new int[7][7];
        int kinds = 1 + random.nextInt(4);
        for (int[] line : sea) {
            for (int i = 0; i < 7; i++) {
                line[i] = random.nextInt(5) == 0 ? -9 : random.nextInt(kinds);
            }
        }
        for (int r = 3; r < 5; r++) {
            int x = random.nextInt(4);
            int y = random.nextInt(4);
            int[] map = new int[16];
            for (int i = 0; i < 16; i++) {
                map[i] = sea[y + i / 4][x + i % 4];
            }
            addRow(due, r, map);
        }
        for (int k = 1; k <= 16; k += 1 + random.nextInt(4)) {
            add(due, "shifts", 3, 4, k);
        }
    }

    private static void plans(Random random, List<Object[]> due) {
        int from = random.nextInt(3);
        for (int r = from; r < from + 3; r++) {
            addRow(due, r, ways(random, 12));
        }
        for (int i = 0; i < 4; i++) {
            int boats = 1 << random.nextInt(6) | 1 << random.nextInt(6) | 1 << random.nextInt(6);
            add(due, "plan", boats, 1 + random.nextInt(7) << from);
        }
    }

    private static void matches(Random random, NaiveBoats naive, List<Object[]> due) {
        int b = random.nextInt(6);
        for (int c : naive.boats[b].could) {
            add(due, "cell", c, random.nextInt(5), 1 + random.nextInt(4), random.nextInt(3));
            add(due, "chart", c, random.nextInt(4) == 0 ? -9 : random.nextInt(3));
        }
        add(due, "look", b);
        add(due, "match", b);
        add(due, "could", b);
    }

    private static void talk(Random random, NaiveBoats naive, List<Object[]> due) {
        for (int i = 0; i < 5; i++) {
            for (int b = random.nextInt(4); b < 6; b += 1 + random.nextInt(5)) {
                add(due, "say", b, random.nextInt(6), random.nextInt(5));
            }
            add(due, "tick");
        }
        int w = random.nextInt(naive.words.size() + 1);
        for (int i = 0; i < 4; i++) {
            add(due, "knows", w, random.nextInt(6), random.nextInt(6), random.nextInt(4) == 0 ? -9 : random.nextInt(6));
            add(due, "allKnow", w, 1 << random.nextInt(6) | 1 << random.nextInt(6), 1 + random.nextInt(3));
            add(due, "heard", w, i);
        }
        for (int kind = 1; kind <= 5; kind++) {
            add(due, "tells", w, kind);
        }
    }

    private static void crowd(Random random, List<Object[]> due) {
        int at = random.nextInt(46);
        for (int b = 0; b < 6; b++) {
            if (random.nextInt(3) != 0) {
                add(due, "boat", b, random.nextInt(4), at + random.nextInt(3) + 8 * random.nextInt(3), random.nextInt(60));
            }
        }
    }

    private static void homing(Random random, NaiveBoats naive, List<Object[]> due) {
        int b = random.nextInt(6);
        add(due, "say", (b + 1) % 6, 0, 0);
        add(due, "say", (b + 2) % 6, 1, 0);
        if (random.nextBoolean()) {
            add(due, "hole", naive.boats[b].cell);
            add(due, "home", b);
        }
        for (int i = 1 + random.nextInt(4); i > 0; i--) {
            add(due, "tick");
        }
        for (int kind = 1; kind <= 6; kind++) {
            add(due, "mark", b, kind);
        }
    }
}
