import java.io.IOException;
import java.lang.reflect.Array;
import java.lang.reflect.Constructor;
import java.lang.reflect.Field;
import java.lang.reflect.Method;
import java.lang.reflect.Modifier;
import java.nio.file.Files;
import java.nio.file.Path;
import java.util.Arrays;
import java.util.IdentityHashMap;
import java.util.Map;
import java.util.Set;
import java.util.TreeSet;
import java.util.regex.Matcher;
import java.util.regex.Pattern;

/**
 * The class has the document's face and no other; its source has none of the words that LANGUAGE.md rules out and
 * stays inside its limits; its objects leave room for as many more as there are calls.
 */
public final class FaceTest {
    private static final String[] METHODS = {
        "int both(int, int, int)", "int breaks(int)", "int clear()", "int condition(int, int, int)",
        "int copy(int, int)", "int count(int)", "int cut(int, int, int)", "int differ(int, int)",
        "int fit(int, int, int, int)", "int forget(int)", "int free(int, int, int)", "int hear(int, int)",
        "int heard(int, int)", "int judge(int, int)", "int lineAt(int, int)", "int mark(int, int)",
        "int may(int, int)", "int put(int, int, int)", "int rule(int, int, int, int)",
        "int step(int, int, int)", "int take(int, int)", "int tour(int, int, int, int)", "int town(int)",
        "int verdict(int)", "long digest()"
    };

    private static final String[] RULED_OUT = {
        "\\bthrow\\b", "\\bthrows\\b", "\\btry\\b", "\\bcatch\\b", "\\bsynchronized\\b", "\\bassert\\b",
        "\\bimport\\b", "\\bpackage\\b", "->", "::", "\\bprotected\\b", "Exact\\b", "\\bequals\\b",
        "\\bhashCode\\b", "\\btoString\\b", "\\bSystem\\.(?!arraycopy)", "\\bThread\\b", "\\bObject\\b"
    };

    private static final int CALLS = 512;
    private static final int MOST_OBJECTS = 600_000;
    private static final int MOST_ELEMENTS = 7_300_000;

    private static Check check;

    public static void main(String[] args) throws IOException {
        check = new Check("FaceTest");
        methods();
        members();
        nestedClasses();
        documentsFace(Path.of(args.length > 1 ? args[1] : "../shared/DOC.md"));
        source(Path.of(args.length > 0 ? args[0] : "src/main/java/PlayReader.java"));
        room();
        check.end();
    }

    /** The document's code says each constant and method of the class, and the class has no other. */
    private static void documentsFace(Path file) throws IOException {
        if (!Files.isReadable(file)) {
            System.out.println("FaceTest: no " + file + ", the face is not looked up");
            return;
        }
        Set<String> methods = new TreeSet<>();
        Set<String> constants = new TreeSet<>();
        for (String line : Files.readAllLines(file)) {
            String code = line.trim();
            if (code.matches("public (int|long) .*\\(.*\\);")) {
                String method = code.substring("public ".length(), code.length() - 1);
                methods.add(method.replaceAll("int \\w+(?=[,)])", "int"));
            } else if (code.startsWith("public static final int ")) {
                String values = code.substring("public static final int ".length(), code.length() - 1);
                constants.addAll(Arrays.asList(values.split(", ")));
            }
        }
        check.holds("the document's methods are " + methods, methods.equals(new TreeSet<>(Arrays.asList(METHODS))));
        Set<String> own = Set.of("NONE = " + PlayReader.NONE, "BAD = " + PlayReader.BAD, "NO = " + PlayReader.NO,
            "FULL = " + PlayReader.FULL);
        check.holds("the document's constants are " + constants, constants.equals(own));
    }

    private static void methods() {
        Set<String> seen = new TreeSet<>();
        Set<String> publicNames = new TreeSet<>();
        for (Method m : PlayReader.class.getDeclaredMethods()) {
            if (Modifier.isPublic(m.getModifiers())) {
                String parameters = Arrays.toString(m.getParameterTypes());
                seen.add(m.getReturnType() + " " + m.getName() + "("
                    + parameters.substring(1, parameters.length() - 1) + ")");
                publicNames.add(m.getName());
            }
        }
        check.holds("the public methods are " + seen, seen.equals(new TreeSet<>(Arrays.asList(METHODS))));
        for (Method m : PlayReader.class.getDeclaredMethods()) {
            boolean hidden = Modifier.isPrivate(m.getModifiers()) && !publicNames.contains(m.getName());
            check.holds("method " + m.getName(), Modifier.isPublic(m.getModifiers()) || hidden || m.isSynthetic());
            check.holds("parameters of " + m.getName(), m.getParameterCount() <= 7);
        }
    }

    private static void members() {
        check.holds("public and final", PlayReader.class.getModifiers() == (Modifier.PUBLIC | Modifier.FINAL));
        Constructor<?>[] constructors = PlayReader.class.getDeclaredConstructors();
        check.due("constructors", constructors.length, 1);
        check.holds("a public constructor", Modifier.isPublic(constructors[0].getModifiers()));
        Set<String> constants = new TreeSet<>();
        for (Field f : PlayReader.class.getDeclaredFields()) {
            if (Modifier.isPublic(f.getModifiers())) {
                constants.add(f.getName());
            } else {
                check.holds("field " + f.getName(), Modifier.isPrivate(f.getModifiers()) || f.isSynthetic());
            }
            checkStatic(f);
        }
        check.holds("the constants are " + constants, constants.equals(Set.of("NONE", "BAD", "NO", "FULL")));
        check.due("NONE", PlayReader.NONE, -1);
        check.due("BAD", PlayReader.BAD, -2);
        check.due("NO", PlayReader.NO, -3);
        check.due("FULL", PlayReader.FULL, -4);
    }

    private static void checkStatic(Field f) {
        if (Modifier.isStatic(f.getModifiers())) {
            check.holds("static " + f.getName() + " is final", Modifier.isFinal(f.getModifiers()));
            check.holds("static " + f.getName() + " is a number", f.getType().isPrimitive());
        }
    }

    private static void nestedClasses() {
        Class<?>[] nested = PlayReader.class.getDeclaredClasses();
        check.holds("at most twelve classes", nested.length < 12);
        for (Class<?> c : nested) {
            int modifiers = c.getModifiers();
            check.holds("class " + c.getName() + " is static", Modifier.isStatic(modifiers));
            check.holds("class " + c.getName() + " is hidden",
                !Modifier.isPublic(modifiers) && !Modifier.isProtected(modifiers));
            for (Field f : c.getDeclaredFields()) {
                checkStatic(f);
            }
            for (Method m : c.getDeclaredMethods()) {
                check.holds("parameters of " + m.getName(), m.getParameterCount() <= 7);
            }
            checkFields(c);
        }
        checkFields(PlayReader.class);
    }

    private static void checkFields(Class<?> c) {
        int fields = 0;
        for (Field f : c.getDeclaredFields()) {
            fields += Modifier.isStatic(f.getModifiers()) ? 0 : 1;
        }
        check.holds("at most twenty fields in " + c.getName(), fields <= 20);
    }

    private static void source(Path file) throws IOException {
        String text = Files.readString(file);
        String code = text.replaceAll("(?s)/\\*.*?\\*/", "").replaceAll("//[^\n]*", "");
        for (String word : RULED_OUT) {
            check.holds("no " + word + " in the source", !Pattern.compile(word).matcher(code).find());
        }
        check.holds("signs 1 to 127", text.chars().allMatch(c -> c > 0 && c < 128));
        methodLengths(code);
    }

    /** A method begins with a line that ends with ") {", and ends with a brace as far in as its first word. */
    private static void methodLengths(String code) {
        String begin = "^( {4}| {8})(?!for|if|while|switch)(\\w[^\n;]*\\)) \\{$";
        Matcher method = Pattern.compile("(?ms)" + begin + ".*?^\\1\\}$").matcher(code);
        int methods = 0;
        while (method.find()) {
            methods++;
            long lines = method.group().lines().count();
            check.holds(lines + " lines of " + method.group(2), lines <= 60);
        }
        check.holds("many methods were found: " + methods, methods > METHODS.length);
    }

    // ---- room

    /** All calls of a run share one room: a new object for each has room there, and a used one keeps no more. */
    private static void room() {
        Map<Object, Boolean> seen = new IdentityHashMap<>();
        long elements = walk(new PlayReader(), seen);
        check.holds("room for " + seen.size() + " objects, " + CALLS + " times", seen.size() * CALLS <= MOST_OBJECTS);
        check.holds("room for " + elements + " elements, " + CALLS + " times", elements * CALLS <= MOST_ELEMENTS);

        PlayReader used = Boundaries.someOfAll();
        int before = objectsOf(used);
        for (int i = 0; i < CALLS; i++) {
            used.put(i % 8, 0, i % 100);
            used.hear(i % 4, i % 5 - 1);
            used.both(i % 4, i % 3, i % 2);
            used.differ(i % 8, i % 3);
            used.step(i % 8, i % 3, i % 7);
            used.verdict(i % 4);
            used.may(i % 4, i % 8);
            used.fit(i % 8, i % 3, i, (i + 1) % 8);
            used.tour(i % 8, i % 256, i, i % 21);
        }
        check.due("objects kept behind calls that need none", objectsOf(used), before);
    }

    private static int objectsOf(PlayReader reader) {
        Map<Object, Boolean> seen = new IdentityHashMap<>();
        walk(reader, seen);
        return seen.size();
    }

    /** How many fields and elements an object and all that it holds have; its parts are told to seen. */
    private static long walk(Object part, Map<Object, Boolean> seen) {
        if (part == null || seen.put(part, true) != null) {
            return 0;
        }
        long elements = 0;
        if (part.getClass().isArray()) {
            boolean ofObjects = !part.getClass().getComponentType().isPrimitive();
            elements = Array.getLength(part);
            for (int i = 0; ofObjects && i < Array.getLength(part); i++) {
                elements += walk(Array.get(part, i), seen);
            }
            return elements;
        }
        for (Field f : part.getClass().getDeclaredFields()) {
            if (!Modifier.isStatic(f.getModifiers())) {
                elements += 1 + (f.getType().isPrimitive() ? 0 : walk(valueOf(f, part), seen));
            }
        }
        return elements;
    }

    private static Object valueOf(Field f, Object of) {
        f.setAccessible(true);
        try {
            return f.get(of);
        } catch (IllegalAccessException e) {
            throw new IllegalStateException(e);
        }
    }
}
