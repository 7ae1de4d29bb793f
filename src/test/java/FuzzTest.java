import java.lang.reflect.InvocationTargetException;
import java.lang.reflect.Method;
import java.util.ArrayList;
import java.util.Arrays;
import java.util.List;
import java.util.Random;

/**
 * Runs of up to 512 calls, drawn by a number, on IceBoats and on NaiveBoats: all answers and all that is told behind
 * each call must be alike, and no call may throw.
 */
final class FuzzTest {
    private static final int RUNS = 1500;
    private static final int[] ODD = {-1, -9, -10, 6, 7, 40, 41, 63, 64, 65, 1000, 1001, Integer.MAX_VALUE, Integer.MIN_VALUE};

    // A call's name, how often it is drawn, and what its numbers are (see number())
    private static final String[] CALLS = {
        "row 4 rn", "lay 20 riv", "tear 1 r", "copy 3 ririn", "mean 2 r", "text 4 tm", "put 24 tis", "rock 4 c?",
        "cell 24 cWTI", "sea 1 cq", "chart 5 cJ", "hole 2 c", "seed 1 v", "boat 10 bkcp", "told 3 bq", "mark 6 bK",
        "could 3 b", "go 24 bW", "tick 30 ", "look 10 b", "looked 2 lq", "match 8 b", "home 3 b", "time 4 cc",
        "say 24 bKx", "word 2 wq", "tells 6 wK", "heard 4 wb", "knows 8 wbBB", "allKnow 6 wsd", "fault 4 t", "rules 6 bt",
        "rule 2 bq", "asks 8 b", "shifts 6 rrh", "mapped 3 s", "plan 6 sS", "odds 5 cr", "courses 6 crr", "asked 1 ", "set 1 ",
        "upper 1 ", "lower 1 ", "count 2 Q", "finding 1 ", "findings 1 d", "digest 1 "};

    public static void main(String[] args) throws Exception {
        Check check = new Check("fuzz");
        List<String[]> drawn = new ArrayList<>();
        for (String call : CALLS) {
            String[] parts = call.split(" ", -1);
            for (int i = 0; i < Integer.parseInt(parts[1]); i++) {
                drawn.add(parts);
            }
        }
        int[] answered = {0, 0};
        for (int seed = 1; seed <= RUNS; seed++) {
            if (!runAlike(check, drawn, seed, answered)) {
                break;
            }
        }
        System.out.println("fuzz: " + answered[0] + " calls, " + answered[1] + " of them refused");
        check.end();
    }

    private static boolean runAlike(Check check, List<String[]> drawn, int seed, int[] answered) throws Exception {
        Random random = new Random(seed);
        IceBoats x = new IceBoats();
        NaiveBoats naive = new NaiveBoats();
        StringBuilder run = new StringBuilder();
        int oddness = seed % 3 == 0 ? 10 : 60;
        List<Object[]> due = new ArrayList<>();
        Scenes.warmUp(random, due);
        for (int i = 0; i < 400; i++) {
            if (due.isEmpty() && random.nextInt(12) == 0) {
                Scenes.draw(random, naive, due);
            }
            Object[] call = due.isEmpty() ? drawCall(random, drawn, naive, oddness) : due.remove(0);
            Object[] numbers = Arrays.copyOfRange(call, 1, call.length);
            if (!callBoth(check, x, naive, (String) call[0], numbers, run, answered)) {
                System.out.println("fuzz: seed " + seed + ":" + run);
                return false;
            }
        }
        return true;
    }

    private static Object[] drawCall(Random random, List<String[]> drawn, NaiveBoats naive, int oddness) {
        String[] parts = drawn.get(random.nextInt(drawn.size()));
        Object[] call = new Object[parts[2].length() + 1];
        call[0] = parts[0];
        for (int k = 1; k < call.length; k++) {
            char what = parts[2].charAt(k - 1);
            call[k] = what == '?' ? (Object) random.nextBoolean() : (Object) number(random, what, naive, oddness);
        }
        return call;
    }

    private static int number(Random random, char what, NaiveBoats naive, int oddness) {
        if (random.nextInt(oddness) == 0) {
            return ODD[random.nextInt(ODD.length)];
        }
        switch (what) {
            case 'r': return random.nextInt(4 + random.nextInt(3));
            case 'n': return random.nextInt(5) == 0 ? random.nextInt(43) - 2 : random.nextInt(3) == 0 ? 16 : 1 + random.nextInt(8);
            case 'm': return random.nextInt(12);
            case 'i': return random.nextInt(random.nextBoolean() ? 4 : 12);
            case 'v': return random.nextInt(3) == 0 ? random.nextInt(64) : random.nextInt(8) == 0 ? random.nextInt() : random.nextInt(5);
            case 't': return random.nextInt(3 + random.nextInt(2));
            case 's': return random.nextInt(2) == 0 ? "HLWE0123456789 ".charAt(random.nextInt(15)) : "HL15 0W2E".charAt(random.nextInt(9));
            case 'S': return random.nextInt(random.nextBoolean() ? 8 : 64);
            case 'c': return random.nextInt(3) == 0 ? random.nextInt(16) : random.nextInt(64);
            case 'W': return random.nextInt(5);
            case 'T': return 1 + random.nextInt(4);
            case 'I': return random.nextInt(4);
            case 'J': return random.nextInt(3) == 0 ? -9 : random.nextInt(4);
            case 'b': return random.nextInt(6);
            case 'B': return random.nextInt(4) == 0 ? -9 : random.nextInt(6);
            case 'k': return random.nextInt(4);
            case 'K': return random.nextInt(7);
            case 'p': return random.nextInt(3) == 0 ? random.nextInt(10) : random.nextInt(200);
            case 'q': return random.nextInt(6);
            case 'Q': return random.nextInt(8);
            case 'l': return random.nextInt(naive.looks.size() + 1);
            case 'w': return random.nextInt(naive.words.size() + 1);
            case 'x': return random.nextInt(4) == 0 ? random.nextInt(64) : random.nextInt(5);
            case 'd': return 1 + random.nextInt(3);
            case 'h': return 1 + random.nextInt(random.nextBoolean() ? 3 : 16);
            default: throw new IllegalStateException("" + what);
        }
    }

    private static boolean callBoth(Check check, IceBoats x, NaiveBoats naive, String name, Object[] numbers, StringBuilder run, int[] answered)
            throws Exception {
        StringBuilder call = new StringBuilder(name).append('(');
        for (int k = 0; k < numbers.length; k++) {
            call.append(k == 0 ? "" : ", ").append(numbers[k]);
        }
        run.append(' ').append(call.append(')'));
        Object got;
        try {
            got = find(IceBoats.class, name).invoke(x, numbers);
        } catch (InvocationTargetException e) {
            System.out.println("fuzz: " + call + " threw " + e.getCause());
            check.due(call + " threw", 1, 0);
            return false;
        }
        long want = callNaive(naive, name, numbers);
        answered[0]++;
        answered[1] += want == -1 || want == -2 || want == -3 || want == -4 || want == -6 ? 1 : 0;
        long answer = ((Number) got).longValue();
        check.due(call.toString(), answer, want);
        long[] told = {x.asked(), x.set(), x.upper(), x.lower(), x.finding(), x.digest(),
            x.findings(1), x.findings(2), x.findings(3), x.findings(4), x.findings(5)};
        long[] due = {naive.asked, naive.set, naive.upper, naive.lower, naive.finding, naive.digest(),
            naive.findings[1], naive.findings[2], naive.findings[3], naive.findings[4], naive.findings[5]};
        boolean alike = answer == want;
        for (int k = 0; k < told.length; k++) {
            check.due(call + ", told " + k, told[k], due[k]);
            alike &= told[k] == due[k];
        }
        return alike;
    }

    private static long callNaive(NaiveBoats naive, String name, Object[] numbers) throws Exception {
        try {
            return ((Number) find(NaiveBoats.class, name).invoke(naive, numbers)).longValue();
        } catch (InvocationTargetException e) {
            NaiveBoats.Refused refused = (NaiveBoats.Refused) e.getCause();
            if (refused.finding != 0) {
                naive.finding = refused.finding;
                naive.findings[refused.finding]++;
            }
            return refused.answer;
        }
    }

    private static Method find(Class<?> in, String name) {
        for (Method m : in.getDeclaredMethods()) {
            if (m.getName().equals(name) && !java.lang.reflect.Modifier.isPrivate(m.getModifiers())) {
                return m;
            }
        }
        throw new IllegalStateException(name);
    }
}
