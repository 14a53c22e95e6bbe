import java.io.IOException;
import java.lang.reflect.Field;
import java.lang.reflect.Method;
import java.lang.reflect.Modifier;
import java.nio.file.Files;
import java.nio.file.Path;
import java.util.Arrays;
import java.util.Set;
import java.util.regex.Matcher;
import java.util.regex.Pattern;

/** What of LANGUAGE.md can be seen in the text of the class, and in the classes that come of it. */
public final class LanguageTest {
    private static final String[] FORBIDDEN = {"\\bthrow", "\\btry\\b", "\\bcatch\\b", "\\bsynchronized\\b", "\\bassert\\b",
        "\\bpackage\\b", "\\bimport\\b", "\\bprotected\\b", "\\bdouble\\b", "\\bfloat\\b", "->", "::", "Exact\\b", "\\bObject\\b",
        "\\bSystem\\.(?!arraycopy)", "\\bthis\\.getClass\\b", "while \\(true\\)", "for \\(;;\\)", "\\bstatic \\{"};
    private static final int LONGEST_METHOD = 60, MOST_CLASSES = 12, MOST_FIELDS = 20, MOST_PARAMETERS = 7;
    private static final Set<Class<?>> FIXED = Set.of(int.class, long.class, boolean.class, char.class, String.class,
        int[].class, long[].class, char[].class, byte[].class);

    public static void main(String[] args) throws IOException {
        String text = Files.readString(Path.of(System.getProperty("root"), "src/main/java/PuddingHobs.java"));
        String code = text.replaceAll("(?s)/\\*.*?\\*/", "").replaceAll("//[^\n]*", "");
        for (String word : FORBIDDEN) {
            Matcher m = Pattern.compile(word).matcher(code);
            Check.due("none of " + word, !m.find());
        }
        Check.due("signs 1 to 127", text.chars().allMatch(c -> c > 0 && c < 128));
        methodsAreShort(text);
        objectsAreMadeByConstructorsAlone(code);
        classesInside();
        Check.finish();
    }

    private static void methodsAreShort(String text) {
        int start = -1;
        String[] lines = text.split("\n");
        for (int i = 0; i < lines.length; i++) {
            if (lines[i].matches(" {4}( {4})?[a-z].*\\) \\{")) {
                start = i;
            } else if (start >= 0 && lines[i].matches(" {4}( {4})?\\}")) {
                Check.due("method at line " + (start + 1), i - start < LONGEST_METHOD);
                start = -1;
            }
        }
    }

    /** All calls of a run share one room: no call makes anything, a field's row or the constructor's parts are all. */
    private static void objectsAreMadeByConstructorsAlone(String code) {
        int constructor = code.indexOf("public PuddingHobs() {");
        int end = code.indexOf("\n    }\n", constructor);
        for (Matcher m = Pattern.compile("(?m)^.*\\bnew\\b.*$").matcher(code); m.find();) {
            boolean isField = m.group().matches(" {8}private final \\S+ \\w+ = new [^{}]*;");
            Check.due("made by a constructor: " + m.group(), isField || m.start() > constructor && m.end() <= end);
        }
        Check.due("no copies, no texts", !code.matches("(?s).*(\\.clone\\(|copyOf|StringBuilder|ArrayList|List\\.of|Integer\\.valueOf).*"));
    }

    private static void classesInside() {
        Class<?>[] inside = PuddingHobs.class.getDeclaredClasses();
        Check.due("classes", inside.length < MOST_CLASSES);
        ofClass(PuddingHobs.class);
        Set<String> faced = Check.methodsOf(PuddingHobs.class).keySet();
        for (Class<?> c : inside) {
            Check.due(c + " is static", Modifier.isStatic(c.getModifiers()));
            Check.due(c + " is private", Modifier.isPrivate(c.getModifiers()));
            Check.due(c + " has none inside", c.getDeclaredClasses().length, 0);
            ofClass(c);
            for (Method m : c.getDeclaredMethods()) {
                Check.due(m + " has a name of its own", !faced.contains(m.getName()));
            }
        }
    }

    private static void ofClass(Class<?> c) {
        int own = 0;
        for (Field f : c.getDeclaredFields()) {
            if (Modifier.isStatic(f.getModifiers())) {
                Check.due(f + " is a constant", Modifier.isFinal(f.getModifiers()) && FIXED.contains(f.getType()));
            } else {
                own++;
            }
        }
        Check.due("fields of " + c, own <= MOST_FIELDS);
        for (Method m : c.getDeclaredMethods()) {
            Check.due("parameters of " + m, m.getParameterCount() <= MOST_PARAMETERS);
            Check.due("types of " + m, Arrays.stream(m.getParameterTypes()).noneMatch(t -> t == Object.class));
        }
    }
}
