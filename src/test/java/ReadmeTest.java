import java.io.IOException;
import java.lang.reflect.Method;
import java.lang.reflect.Modifier;
import java.nio.file.Files;
import java.nio.file.Path;
import java.util.Map;
import java.util.Set;
import java.util.TreeSet;
import java.util.regex.Matcher;
import java.util.regex.Pattern;

/** README.md: the calls of its example answer what stands behind them, and no call of the class is missing there. */
public final class ReadmeTest {
    private static final Pattern CALL =
        Pattern.compile("^reader\\.(\\w+)\\(([^)]*)\\); +// (-?\\d+|NONE|BAD|NO|FULL)\\b.*");
    private static final Map<String, Long> WORDS = Map.of(
        "NONE", (long) PlayReader.NONE, "BAD", (long) PlayReader.BAD,
        "NO", (long) PlayReader.NO, "FULL", (long) PlayReader.FULL);

    private static final Check check = new Check("ReadmeTest");
    private static final PlayReader reader = new PlayReader();
    private static final Set<String> called = new TreeSet<>();

    public static void main(String[] args) throws IOException, ReflectiveOperationException {
        String text = Files.readString(Path.of("README.md"));
        for (String line : text.split("\n")) {
            if (line.startsWith("reader.")) {
                Matcher call = CALL.matcher(line);
                check.holds("a call and its answer: " + line, call.matches());
                if (call.matches()) {
                    check.due(line, answer(call.group(1), call.group(2)), number(call.group(3)));
                }
            }
        }
        for (Method m : PlayReader.class.getDeclaredMethods()) {
            if (Modifier.isPublic(m.getModifiers())) {
                check.holds("the example calls " + m.getName(), called.contains(m.getName()));
                check.holds("the table tells of " + m.getName(), text.contains("`" + m.getName() + "`"));
            }
        }
        check.end();
    }

    private static long answer(String name, String arguments) throws ReflectiveOperationException {
        called.add(name);
        String[] words = arguments.isEmpty() ? new String[0] : arguments.split(", ");
        Class<?>[] types = new Class<?>[words.length];
        Object[] numbers = new Object[words.length];
        for (int i = 0; i < words.length; i++) {
            types[i] = int.class;
            numbers[i] = (int) number(words[i].replace("PlayReader.", ""));
        }
        return ((Number) PlayReader.class.getMethod(name, types).invoke(reader, numbers)).longValue();
    }

    private static long number(String word) {
        return WORDS.containsKey(word) ? WORDS.get(word) : Long.parseLong(word);
    }
}
