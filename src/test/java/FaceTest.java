import java.io.IOException;
import java.lang.reflect.Constructor;
import java.lang.reflect.Field;
import java.lang.reflect.Method;
import java.lang.reflect.Modifier;
import java.nio.file.Files;
import java.nio.file.Path;
import java.util.Arrays;
import java.util.Set;
import java.util.TreeSet;
import java.util.regex.Pattern;

/** The class has the document's face and no other; its source has none of the words that LANGUAGE.md rules out. */
public final class FaceTest {
    private static final String[] METHODS = {
        "int both(int, int, int)", "int breaks(int)", "int clear()", "int condition(int, int, int)",
        "int copy(int, int)", "int count(int)", "int cut(int, int, int)", "int differ(int, int)",
        "int fit(int, int, int, int)", "int forget(int)", "int free(int, int, int)", "int hear(int, int)",
        "int heard(int, int)", "int judge(int, int)", "int lineAt(int, int)", "int mark(int, int)",
        "int may(int, int)", "int put(int, int, int)", "int rule(int, int, int, int)",
        "int step(int, int, int)", "int take(int, int)", "int tour(int, int, int, int)", "int town(int)",
        "int verdict(int)", "long digest()"
    };

    private static final String[] RULED_OUT = {
        "\\bthrow\\b", "\\bthrows\\b", "\\btry\\b", "\\bcatch\\b", "\\bsynchronized\\b", "\\bassert\\b",
        "\\bimport\\b", "\\bpackage\\b", "->", "::", "\\bprotected\\b", "Exact\\b", "\\bequals\\b",
        "\\bhashCode\\b", "\\btoString\\b", "\\bSystem\\.(?!arraycopy)", "\\bThread\\b", "\\bObject\\b"
    };

    private static Check check;

    public static void main(String[] args) throws IOException {
        check = new Check("FaceTest");
        methods();
        members();
        nestedClasses();
        source(Path.of(args.length > 0 ? args[0] : "src/main/java/PlayReader.java"));
        check.end();
    }

    private static void methods() {
        Set<String> seen = new TreeSet<>();
        Set<String> publicNames = new TreeSet<>();
        for (Method m : PlayReader.class.getDeclaredMethods()) {
            if (Modifier.isPublic(m.getModifiers())) {
                String parameters = Arrays.toString(m.getParameterTypes());
                seen.add(m.getReturnType() + " " + m.getName() + "("
                    + parameters.substring(1, parameters.length() - 1) + ")");
                publicNames.add(m.getName());
            }
        }
        check.holds("the public methods are " + seen, seen.equals(new TreeSet<>(Arrays.asList(METHODS))));
        for (Method m : PlayReader.class.getDeclaredMethods()) {
            boolean hidden = Modifier.isPrivate(m.getModifiers()) && !publicNames.contains(m.getName());
            check.holds("method " + m.getName(), Modifier.isPublic(m.getModifiers()) || hidden || m.isSynthetic());
            check.holds("parameters of " + m.getName(), m.getParameterCount() <= 7);
        }
    }

    private static void members() {
        check.holds("public and final", PlayReader.class.getModifiers() == (Modifier.PUBLIC | Modifier.FINAL));
        Constructor<?>[] constructors = PlayReader.class.getDeclaredConstructors();
        check.due("constructors", constructors.length, 1);
        check.holds("a public constructor", Modifier.isPublic(constructors[0].getModifiers()));
        Set<String> constants = new TreeSet<>();
        for (Field f : PlayReader.class.getDeclaredFields()) {
            if (Modifier.isPublic(f.getModifiers())) {
                constants.add(f.getName());
            } else {
                check.holds("field " + f.getName(), Modifier.isPrivate(f.getModifiers()) || f.isSynthetic());
            }
            checkStatic(f);
        }
        check.holds("the constants are " + constants, constants.equals(Set.of("NONE", "BAD", "NO", "FULL")));
        check.due("NONE", PlayReader.NONE, -1);
        check.due("BAD", PlayReader.BAD, -2);
        check.due("NO", PlayReader.NO, -3);
        check.due("FULL", PlayReader.FULL, -4);
    }

    private static void checkStatic(Field f) {
        if (Modifier.isStatic(f.getModifiers())) {
            check.holds("static " + f.getName() + " is final", Modifier.isFinal(f.getModifiers()));
            check.holds("static " + f.getName() + " is a number", f.getType().isPrimitive());
        }
    }

    private static void nestedClasses() {
        Class<?>[] nested = PlayReader.class.getDeclaredClasses();
        check.holds("at most twelve classes", nested.length < 12);
        for (Class<?> c : nested) {
            int modifiers = c.getModifiers();
            check.holds("class " + c.getName() + " is static", Modifier.isStatic(modifiers));
            check.holds("class " + c.getName() + " is hidden",
                !Modifier.isPublic(modifiers) && !Modifier.isProtected(modifiers));
            for (Field f : c.getDeclaredFields()) {
                checkStatic(f);
            }
        }
    }

    private static void source(Path file) throws IOException {
        String text = Files.readString(file);
        String code = text.replaceAll("(?s)/\\*.*?\\*/", "").replaceAll("//[^\n]*", "");
        for (String word : RULED_OUT) {
            check.holds("no " + word + " in the source", !Pattern.compile(word).matcher(code).find());
        }
        check.holds("signs 1 to 127", text.chars().allMatch(c -> c > 0 && c < 128));
    }
}
