import java.io.IOException;
import java.nio.file.Files;
import java.nio.file.Path;
import java.util.Arrays;
import java.util.HashSet;
import java.util.Set;
import java.util.function.LongSupplier;

/** Counts answers that are not as due, and ends a test with exit code 1 if there was one. */
final class Check {
    static final int NOTHING = 1, BEYOND = 2, UNLIKE = 3, NOUGHT = 4, SIZE = 5;
    private final String name;
    private String sentence = "";
    private final Set<String> sentences = new HashSet<>();
    private String document;
    private int checks;
    private int wrong;

    Check(String name) {
        this.name = name;
    }

    /** The promise's number (0: the terms) and the words of the document that the checks behind this are of. */
    void sentence(int promise, String words) {
        sentence = " [" + promise + ": " + words + "]";
        sentences.add(sentence);
    }

    /** As sentence(), but the words are the document's own, as long as it can be found. */
    void quote(int promise, String words) {
        sentence(promise, words);
        if (document == null) {
            document = readDocument();
        }
        due("the words stand in the document", document.isEmpty() || document.contains(words) ? 1 : 0, 1);
    }

    private static String readDocument() {
        Path path = Path.of("..", "shared", "DOC.md");
        try {
            return Files.isReadable(path) ? Files.readString(path) : "";
        } catch (IOException e) {
            return "";
        }
    }

    void due(String call, long got, long want) {
        checks++;
        if (got != want) {
            wrong++;
            System.out.println(name + ": " + call + " answered " + got + ", due is " + want + sentence);
        }
    }

    void bad(IceBoats x, String call, LongSupplier run) {
        refused(x, call, run, IceBoats.BAD);
    }

    void state(IceBoats x, String call, LongSupplier run) {
        refused(x, call, run, IceBoats.STATE);
    }

    void full(IceBoats x, String call, LongSupplier run) {
        refused(x, call, run, IceBoats.FULL);
    }

    /** A call that answers 1 and tells by asked(). */
    void asked(IceBoats x, String call, long got, long want) {
        due(call, got, 1);
        due(call + ", asked()", x.asked(), want);
    }

    /** A call that is refused by BAD, FULL, STATE or SPENT: nothing changes, not even finding(). */
    void refused(IceBoats x, String call, LongSupplier run, long want) {
        long[] before = told(x);
        due(call, run.getAsLong(), want);
        due(call + ": what changed", Arrays.mismatch(before, told(x)), -1);
    }

    /** A call that is refused by a FINDING: only finding() and findings() change. */
    void found(IceBoats x, String call, LongSupplier run, int finding) {
        long[] before = told(x);
        due(call, run.getAsLong(), IceBoats.FINDING);
        before[0] = finding;
        before[finding]++;
        due(call + ": what changed", Arrays.mismatch(before, told(x)), -1);
    }

    // finding(), findings(1 .. 5), then all else that can be told
    private static long[] told(IceBoats x) {
        return new long[] {x.finding(), x.findings(1), x.findings(2), x.findings(3), x.findings(4), x.findings(5),
            x.asked(), x.set(), x.upper(), x.lower(), x.digest()};
    }

    /** A ROW of n places that are all alike. */
    void fill(IceBoats x, int r, int n, int v) {
        int[] places = new int[n];
        Arrays.fill(places, v);
        row(x, r, places);
    }

    void row(IceBoats x, int r, int... places) {
        x.row(r, places.length);
        for (int i = 0; i < places.length; i++) {
            x.lay(r, i, places[i]);
        }
    }

    void text(IceBoats x, int t, String signs) {
        x.text(t, signs.length());
        for (int i = 0; i < signs.length(); i++) {
            x.put(t, i, signs.charAt(i));
        }
    }

    void ticks(IceBoats x, int n) {
        for (int i = 0; i < n; i++) {
            x.tick();
        }
    }

    void end() {
        String of = sentences.isEmpty() ? "" : " of " + sentences.size() + " sentences";
        System.out.println(name + ": " + checks + " checks" + of + ", " + wrong + " wrong");
        if (wrong != 0) {
            System.exit(1);
        }
    }
}
