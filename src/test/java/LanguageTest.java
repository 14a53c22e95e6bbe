import java.io.IOException;
import java.nio.file.Files;
import java.nio.file.Path;
import java.util.regex.Matcher;
import java.util.regex.Pattern;

/** What of LANGUAGE.md can be seen in the text of the class. */
public final class LanguageTest {
    private static final String[] FORBIDDEN = {"\\bthrow", "\\btry\\b", "\\bcatch\\b", "\\bsynchronized\\b", "\\bassert\\b",
        "\\bpackage\\b", "\\bimport\\b", "\\bprotected\\b", "\\bdouble\\b", "\\bfloat\\b", "->", "::", "Exact\\b", "\\bObject\\b",
        "\\bSystem\\.(?!arraycopy)", "\\bthis\\.getClass\\b", "while \\(true\\)", "for \\(;;\\)"};
    private static final int LONGEST_METHOD = 60;

    public static void main(String[] args) throws IOException {
        String text = Files.readString(Path.of(System.getProperty("source")));
        String code = text.replaceAll("(?s)/\\*.*?\\*/", "").replaceAll("//[^\n]*", "");
        for (String word : FORBIDDEN) {
            Matcher m = Pattern.compile(word).matcher(code);
            Check.due("none of " + word, !m.find());
        }
        Check.due("signs 1 to 127", text.chars().allMatch(c -> c > 0 && c < 128));
        methodsAreShort(text);
        Check.finish();
    }

    private static void methodsAreShort(String text) {
        int start = -1;
        String[] lines = text.split("\n");
        for (int i = 0; i < lines.length; i++) {
            if (lines[i].matches(" {4}( {4})?[a-z].*\\) \\{")) {
                start = i;
            } else if (start >= 0 && lines[i].matches(" {4}( {4})?\\}")) {
                Check.due("method at line " + (start + 1), i - start < LONGEST_METHOD);
                start = -1;
            }
        }
    }
}
