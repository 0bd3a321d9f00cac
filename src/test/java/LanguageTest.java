import java.nio.file.Files;
import java.nio.file.Path;
import java.util.regex.Matcher;
import java.util.regex.Pattern;

/** That the class's text keeps to what LANGUAGE.md leaves, as far as words of the text can tell. */
public final class LanguageTest {
    private static final String[] RULED_OUT = {
        "\\bthrow\\b", "\\bthrows\\b", "\\btry\\b", "\\bcatch\\b", "\\bsynchronized\\b", "\\bassert\\b",
        "->", "::", "\\bpackage\\b", "\\bstatic\\s*\\{", "\\bdouble\\b", "\\bfloat\\b", "\\bprotected\\b",
        "Exact\\b", "\\bSystem\\.(?!arraycopy\\b)", "\\bArrays\\.(?!(copyOf|copyOfRange|fill)\\b)",
        "\\bMath\\.(?!(min|max|abs|floorDiv|floorMod)\\b)", "\\bInteger\\.(?!(bitCount|compare|max|min)\\()",
        "\\bequals\\b", "\\bhashCode\\b", "\\btoString\\b"
    };

    public static void main(String[] args) throws Exception {
        String text = Files.readString(Path.of("src/main/java/GhostSigns.java"));
        String code = text.replaceAll("(?s)/\\*.*?\\*/", " ").replaceAll("//[^\n]*", " ");
        for (String shape : RULED_OUT) {
            Checks.due("ruled out: " + shape, times(shape, code), 0);
        }
        Checks.due("imports", times("\\bimport\\b", code), times("\\bimport java\\.util\\.Arrays;", code));
        int classes = times("\\bclass\\s+\\w+", code);
        Checks.due(classes + " classes are at most twelve", classes <= 12 ? 1 : 0, 1);
        Checks.finish();
    }

    private static int times(String shape, String code) {
        Matcher at = Pattern.compile(shape).matcher(code);
        int sum = 0;
        while (at.find()) {
            sum++;
        }
        return sum;
    }
}
