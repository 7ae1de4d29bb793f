import java.lang.reflect.Method;
import java.lang.reflect.Modifier;
import java.util.ArrayList;
import java.util.List;

/**
 * Numbers that are none, for every number of every call: the last one that is fine and the first one that is not, at both
 * ends. BAD is the first of what may be refused, so such a number is BAD whatever the object has been through and whatever
 * the other numbers are.
 */
final class EdgeNumbersTest {
    private static final Check CHECK = new Check("edges of numbers");
    private static final int NONE = IceBoats.NONE;

    // A call's name and its numbers: "least..greatest", "..greatest" (less is a FINDING), "* " any, "?" true or false,
    // "|none" also NONE, W and L one less than the words, the LOOKS that there are
    private static final String[] CALLS = {
        "row 0..5 ..40", "lay 0..5 * *", "tear 0..5", "copy 0..5 * 0..5 * *", "mean 0..5", "text 0..3 ..40", "put 0..3 * *",
        "rock 0..63 ?", "cell 0..63 0..4 1..4 0..9", "sea 0..63 0..4", "chart 0..63 0..9|none", "hole 0..63",
        "boat 0..5 0..3 0..63 0..1000", "told 0..5 0..5", "mark 0..5 1..6", "could 0..5", "go 0..5 0..4", "look 0..5", "looked 0..L 0..3",
        "match 0..5", "home 0..5", "time 0..63 0..63", "say 0..5 0..5 *", "word 0..W 0..3", "tells 0..W 1..5", "heard 0..W 0..5",
        "knows 0..W 0..5 0..5|none 0..5|none", "allKnow 0..W 1..63 1..3", "fault 0..3", "rules 0..5 0..3", "rule 0..5 0..3", "asks 0..5",
        "shifts 0..5 0..5 1..16", "mapped 0..63", "plan 1..63 0..63", "odds 0..63 0..5", "courses 0..63 0..5 0..5", "count 0..7",
        "findings 1..5"};

    public static void main(String[] args) throws Exception {
        for (String call : CALLS) {
            String[] parts = call.split(" ");
            CHECK.sentence(0, "BAD -1 (a number that is none, or not as told): " + call);
            for (int life = 0; life < 4; life++) {
                wrongNumbers(parts, life);
                fineNumbers(parts, life);
            }
        }
        CHECK.end();
    }

    // New; with some of all; full, and with no BOAT that is ABLE; with all ROWS and TEXTS torn again
    private static IceBoats live(int life) {
        IceBoats x = new IceBoats();
        if (life == 0) {
            return x;
        }
        for (int r = 0; r < 6; r++) {
            x.row(r, r);
        }
        x.text(0, 2);
        x.rock(20, true);
        x.cell(5, 3, 2, 7);
        x.boat(0, 1, 9, 1000);
        x.look(0);
        for (int b = 0; b < 4; b++) {
            x.say(b, b, b == 2 ? 0 : 1);
        }
        x.tick();
        if (life == 2) {
            for (int l = 1; l < 40; l++) {
                x.look(0);
                x.say(0, 0, 0);
                x.tick();
            }
            for (int b = 0; b < 6; b++) {
                x.boat(b, 0, 0, 0);
            }
            x.tick();
        }
        for (int r = 0; r < 6 && life == 3; r++) {
            x.tear(r);
        }
        return x;
    }

    private static int least(String range) {
        return range.startsWith("..") ? 0 : Integer.parseInt(range.substring(0, range.indexOf("..")));
    }

    private static int greatest(IceBoats x, String range) {
        String end = range.substring(range.indexOf("..") + 2).replace("|none", "");
        return end.equals("W") ? x.count(2) - 1 : end.equals("L") ? x.count(3) - 1 : Integer.parseInt(end);
    }

    private static boolean isRange(String range) {
        return range.contains("..");
    }

    private static List<Integer> wrong(IceBoats x, String range) {
        List<Integer> all = new ArrayList<>();
        int greatest = greatest(x, range);
        all.add(greatest + 1);
        all.add(greatest + 2);
        all.add(Integer.MAX_VALUE);
        if (!range.startsWith("..")) {
            all.add(least(range) - 1);
            all.add(-8);
            all.add(-10);
            all.add(Integer.MIN_VALUE);
            if (!range.endsWith("|none")) {
                all.add(NONE);
            }
        }
        return all;
    }

    private static Object fine(String range) {
        return range.equals("?") ? (Object) Boolean.TRUE : (Object) (isRange(range) ? least(range) : 0);
    }

    private static Object[] fineOnes(String[] parts) {
        Object[] numbers = new Object[parts.length - 1];
        for (int i = 0; i < numbers.length; i++) {
            numbers[i] = fine(parts[i + 1]);
        }
        return numbers;
    }

    private static void wrongNumbers(String[] parts, int life) throws Exception {
        IceBoats x = live(life);
        for (int i = 1; i < parts.length; i++) {
            if (!isRange(parts[i])) {
                continue;
            }
            for (int v : wrong(x, parts[i])) {
                Object[] numbers = fineOnes(parts);
                numbers[i - 1] = v;
                refused(x, parts[0], numbers, life);
                for (int other = 1; other < parts.length; other++) {
                    if (other != i && !parts[other].equals("?")) {
                        numbers[other - 1] = Integer.MIN_VALUE;
                        refused(x, parts[0], numbers, life);
                        numbers[other - 1] = fine(parts[other]);
                    }
                }
            }
        }
    }

    private static void refused(IceBoats x, String name, Object[] numbers, int life) {
        CHECK.bad(x, told(name, numbers, life), () -> call(x, name, numbers));
    }

    private static void fineNumbers(String[] parts, int life) throws Exception {
        for (int i = 1; i < parts.length; i++) {
            if (!isRange(parts[i])) {
                continue;
            }
            boolean there = greatest(live(life), parts[i]) >= least(parts[i]);
            int[] ends = {least(parts[i]), greatest(live(life), parts[i]), parts[i].endsWith("|none") ? NONE : least(parts[i])};
            for (int v : ends) {
                Object[] numbers = fineOnes(parts);
                numbers[i - 1] = v;
                if (parts[0].equals("knows") && i == 3 && v == NONE) {
                    numbers[3] = NONE;
                }
                boolean others = there && (!parts[1].matches("0\\.\\.[WL]") || life != 0);
                long answer = call(live(life), parts[0], numbers);
                CHECK.due(told(parts[0], numbers, life) + " is BAD", answer == IceBoats.BAD ? 1 : 0, others ? 0 : 1);
            }
        }
    }

    private static String told(String name, Object[] numbers, int life) {
        StringBuilder all = new StringBuilder("life " + life + ": " + name + '(');
        for (Object v : numbers) {
            all.append(' ').append(v);
        }
        return all.append(" )").toString();
    }

    private static long call(IceBoats x, String name, Object[] numbers) {
        for (Method m : IceBoats.class.getDeclaredMethods()) {
            if (m.getName().equals(name) && Modifier.isPublic(m.getModifiers())) {
                try {
                    return ((Number) m.invoke(x, numbers)).longValue();
                } catch (ReflectiveOperationException e) {
                    throw new IllegalStateException(name, e);
                }
            }
        }
        throw new IllegalStateException(name);
    }
}
