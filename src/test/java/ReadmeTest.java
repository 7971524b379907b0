import java.lang.reflect.Method;
import java.lang.reflect.Modifier;
import java.nio.file.Files;
import java.nio.file.Path;
import java.util.List;
import java.util.regex.Matcher;
import java.util.regex.Pattern;
import java.util.stream.Stream;

/** README.md: its example answers what it says there, and it names every call and every test. */
public final class ReadmeTest {
    private static final Due DUE = new Due();
    private static final Pattern CALL = Pattern.compile("cuts\\.(\\w+)\\(([^)]*)\\);\\s*// (-?\\d+)");

    public static void main(String[] args) throws Exception {
        String text = Files.readString(Path.of("README.md"));
        example(text);
        calls(text);
        tests(text);
        DUE.end();
    }

    private static void example(String text) throws Exception {
        PolyCuts cuts = new PolyCuts();
        int calls = 0;
        for (String line : text.split("\n")) {
            if (line.contains("cuts.")) {
                Matcher found = CALL.matcher(line);
                DUE.holds("it can be read: " + line, found.find());
                DUE.is(line, answer(cuts, found.group(1), found.group(2)), Long.parseLong(found.group(3)));
                calls++;
            }
        }
        DUE.holds("there is an example", calls > 0);
    }

    /** The example has one polygon, p, whose number is 0. */
    private static long answer(PolyCuts cuts, String name, String told) throws Exception {
        String[] words = told.isEmpty() ? new String[0] : told.split(", ");
        Object[] numbers = new Object[words.length];
        Class<?>[] types = new Class<?>[words.length];
        for (int i = 0; i < words.length; i++) {
            numbers[i] = words[i].equals("p") ? 0 : Integer.parseInt(words[i]);
            types[i] = int.class;
        }
        return ((Number) PolyCuts.class.getMethod(name, types).invoke(cuts, numbers)).longValue();
    }

    private static void calls(String text) {
        for (Method m : PolyCuts.class.getDeclaredMethods()) {
            if (Modifier.isPublic(m.getModifiers())) {
                DUE.holds("it tells of " + m.getName(), text.contains("| `" + m.getName() + "("));
            }
        }
    }

    private static void tests(String text) throws Exception {
        List<Path> files;
        try (Stream<Path> all = Files.list(Path.of("src/test/java"))) {
            files = all.toList();
        }
        for (Path file : files) {
            String name = file.getFileName().toString().replace(".java", "");
            DUE.holds("it tells of " + name, !name.endsWith("Test") || text.contains("| `" + name + "` |"));
        }
    }
}
