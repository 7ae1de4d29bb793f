import java.io.File;
import java.lang.reflect.Method;
import java.lang.reflect.Modifier;
import java.nio.file.Files;
import java.nio.file.Path;
import java.util.regex.Matcher;
import java.util.regex.Pattern;

/** Holds README.md against the class and the tests: what each of its calls answers, and that it names each test. */
final class ReadmeTest {
    private static final Check CHECK = new Check("readme");

    public static void main(String[] args) throws Exception {
        String page = Files.readString(Path.of("README.md"));
        calls(page);
        names(page);
        CHECK.end();
    }

    private static void calls(String page) throws Exception {
        IceBoats x = new IceBoats();
        Matcher m = Pattern.compile("\nx\\.(\\w+)\\(([^)]*)\\); +// (-?\\d+)").matcher(page);
        int calls = 0;
        while (m.find()) {
            CHECK.due(m.group().trim(), call(x, m.group(1), m.group(2)), Long.parseLong(m.group(3)));
            calls++;
        }
        CHECK.due("calls that tell no answer", page.split("\nx\\.", -1).length - 1 - calls, 0);
        CHECK.due("calls were found", calls > 50 && calls <= 512 ? 1 : 0, 1);
    }

    private static long call(IceBoats x, String name, String numbers) throws Exception {
        String[] parts = numbers.isEmpty() ? new String[0] : numbers.split(", ");
        Object[] all = new Object[parts.length];
        for (int i = 0; i < parts.length; i++) {
            all[i] = parts[i].matches("true|false") ? (Object) Boolean.valueOf(parts[i]) : (Object) Integer.valueOf(parts[i]);
        }
        for (Method m : IceBoats.class.getDeclaredMethods()) {
            if (m.getName().equals(name) && Modifier.isPublic(m.getModifiers())) {
                return ((Number) m.invoke(x, all)).longValue();
            }
        }
        throw new IllegalStateException(name);
    }

    private static void names(String page) {
        for (String file : new File("src/test/java").list()) {
            if (file.endsWith("Test.java")) {
                String name = file.substring(0, file.length() - ".java".length());
                CHECK.due(name + " is named", page.contains("`" + name + "`") ? 1 : 0, 1);
            }
        }
        Matcher m = Pattern.compile("`(\\w+Test|\\w+Boats)`").matcher(page);
        while (m.find()) {
            boolean there = new File("src/test/java/" + m.group(1) + ".java").exists();
            CHECK.due(m.group(1) + " is there", there || m.group(1).equals("IceBoats") ? 1 : 0, 1);
        }
        CHECK.due(".ci/run can be run", new File(".ci/run").canExecute() ? 1 : 0, 1);
        CHECK.due("the class is where the page says", new File("src/main/java/IceBoats.java").exists() ? 1 : 0, 1);
    }
}
