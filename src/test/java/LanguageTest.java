import java.lang.management.ManagementFactory;
import java.nio.file.Files;
import java.nio.file.Path;
import java.util.Arrays;
import java.util.HashSet;
import java.util.Set;
import java.util.regex.Matcher;
import java.util.regex.Pattern;

/** Holds IceBoats.java against the rules of LANGUAGE.md that can be read off its text, and against the room it may take. */
final class LanguageTest {
    private static final Check CHECK = new Check("language");

    public static void main(String[] args) throws Exception {
        String path = args.length > 0 ? args[0] : "src/main/java/IceBoats.java";
        String text = Files.readString(Path.of(path));
        String code = text.replaceAll("(?s)/\\*.*?\\*/", "").replaceAll("//[^\n]*", "");
        face(text);
        words(code);
        names(code);
        shape(code);
        library(code);
        room();
        CHECK.end();
    }

    private static void none(String code, String rule, String pattern) {
        Matcher m = Pattern.compile(pattern).matcher(code);
        boolean there = m.find();
        CHECK.due(rule + (there ? ": '" + m.group() + "'" : ""), there ? 1 : 0, 0);
    }

    // The document's face, line by line and in its order, with the headings that it tells ahead of some of its calls
    private static void face(String text) throws Exception {
        Path document = Path.of("..", "shared", "DOC.md");
        if (!Files.isReadable(document)) {
            return;
        }
        String doc = Files.readString(document);
        int from = 0;
        Matcher lines = Pattern.compile("\n    public ([^;=]*);").matcher(doc);
        int found = 0;
        while (lines.find()) {
            int at = text.indexOf("    public " + lines.group(1) + " {", from);
            CHECK.due("the face's " + lines.group(1) + " in its place", at > 0 ? 1 : 0, 1);
            from = Math.max(from, at);
            found++;
        }
        CHECK.due("the constructor and the calls of the face", found, 48);
        Matcher heads = Pattern.compile("Ahead of the calls `(\\w+)`.* the interface says: (---- .*)\\.\n").matcher(doc);
        int headings = 0;
        while (heads.find()) {
            Pattern due = Pattern.compile("// " + Pattern.quote(heads.group(2)) + "\n\\s*public \\w+ " + heads.group(1) + "\\(");
            CHECK.due(heads.group(2) + " ahead of " + heads.group(1), due.matcher(text).find() ? 1 : 0, 1);
            headings++;
        }
        CHECK.due("headings", headings, 6);
    }

    private static void words(String code) {
        none(code, "1 no package", "\\bpackage\\b");
        none(code, "2 no lambda, no method reference", "->|::");
        none(code, "3 no strings, no doubles are needed", "\"|\\bdouble\\b|\\bfloat\\b");
        none(code, "5 no static block", "\\bstatic\\s*\\{");
        none(code, "6 no exceptions, locks or asserts", "\\b(throw|throws|try|catch|finally|synchronized|assert)\\b");
        none(code, "8 no clock, no chance", "\\b(System\\.(?!arraycopy)|Thread|Random|Runtime|Object)");
        none(code, "4 nothing that ends in Exact", "\\w+Exact\\b");
        none(code, "5 static fields are final", "\\bstatic\\s+(?!final|long|int|boolean|void)\\w+\\s+\\w+\\s*[=;]");
        none(code, "9 no endless loop", "while\\s*\\(true\\)|for\\s*\\(;;\\)");
        none(code, "1 nothing protected", "\\bprotected\\b");
    }

    // No method but a public one bears a public one's name
    private static void names(String code) {
        Set<String> open = new HashSet<>();
        Matcher m = Pattern.compile("public (?:int|long) (\\w+)\\(").matcher(code);
        while (m.find()) {
            open.add(m.group(1));
        }
        CHECK.due("public methods", open.size(), 47);
        Matcher all = Pattern.compile("\n +(public )?(?:private )?(?:static )?(?:int|long|boolean|void|[A-Z]\\w*) (\\w+)\\([^;{]*\\{").matcher(code);
        int methods = 0;
        while (all.find()) {
            methods++;
            if (all.group(1) == null) {
                CHECK.due("1 " + all.group(2) + " bears a public name", open.contains(all.group(2)) ? 1 : 0, 0);
            }
        }
        CHECK.due("methods were found", methods > 100 ? 1 : 0, 1);
    }

    private static void shape(String code) {
        Matcher m = Pattern.compile("\n( +)[^\n]*\\)\\s*\\{\n(?:(?:\\1 [^\n]*)?\n)*?\\1\\}\n").matcher(code);
        int longest = 0;
        while (m.find()) {
            longest = Math.max(longest, m.group().split("\n").length);
        }
        CHECK.due("11 the longest method has " + longest + " lines", longest <= 60 ? 1 : 0, 1);
        Matcher heads = Pattern.compile("\\w+ \\w+\\(([^()]*)\\)\\s*\\{").matcher(code);
        while (heads.find()) {
            CHECK.due("11 more than seven parameters: " + heads.group(), heads.group(1).split(",").length <= 7 ? 1 : 0, 1);
        }
        int classes = code.split("\\bclass\\b", -1).length - 1;
        CHECK.due("11 classes: " + classes, classes <= 12 ? 1 : 0, 1);
    }

    private static void library(String code) {
        none(code, "4 no imports are needed", "\\bimport\\b");
        Set<String> fine = new HashSet<>(Arrays.asList("Math.abs", "Math.max", "Math.min", "Long.bitCount", "Integer.bitCount", "System.arraycopy"));
        Matcher m = Pattern.compile("\\b(Math|Long|Integer|System|Arrays|String|StringBuilder|Character|Boolean)\\b(\\.\\w+)?").matcher(code);
        while (m.find()) {
            CHECK.due("4 the library's " + m.group(), fine.contains(m.group()) ? 1 : 0, 1);
        }
    }

    // All calls of a run live in one room: only what say() and look() keep is made behind the constructor
    private static void room() {
        com.sun.management.ThreadMXBean threads = (com.sun.management.ThreadMXBean) ManagementFactory.getThreadMXBean();
        long id = Thread.currentThread().getId();
        IceBoats x = new IceBoats();
        for (int round = 0; round < 2; round++) {
            long before = threads.getThreadAllocatedBytes(id);
            manyCalls(x);
            long made = threads.getThreadAllocatedBytes(id) - before;
            CHECK.due("12 bytes made by 10000 calls: " + made, round == 0 || made < 4000 ? 1 : 0, 1);
        }
    }

    private static void manyCalls(IceBoats x) {
        for (int i = 0; i < 400; i++) {
            x.row(0, 8);
            x.row(1, 16);
            x.row(2, 0);
            x.text(0, 4);
            x.copy(0, 0, 1, 0, 8);
            x.mean(0);
            x.time(0, 63);
            x.odds(0, 0);
            x.courses(0, 0, 2);
            x.plan(7, 1);
            x.shifts(1, 1, 1);
            x.fault(0);
            x.rules(0, 0);
            x.asks(0);
            x.mapped(63);
            x.could(0);
            x.tick();
            x.match(0);
            x.mark(0, 1);
            x.knows(0, 0, 1, 2);
            x.allKnow(0, 63, 3);
            x.digest();
            x.cell(i % 64, i % 5, 1 + i % 4, i % 10);
            x.boat(1, 0, 5, 100);
            x.go(1, 3);
        }
    }
}
