import java.io.IOException;
import java.nio.file.Files;
import java.nio.file.Path;
import java.util.regex.Pattern;

/** What LANGUAGE.md rules out and a look at the text can find; run from the project's folder. */
public final class LanguageTest {
    private static final String[] RULED_OUT = {
        "\\bpackage\\b", "\\bimport\\b", "->", "::", "\\bsynchronized\\b", "\\bassert\\b", "\\bfinally\\b",
        "\\bthrow\\b", "\\bcatch\\b", "\\bprotected\\b", "\\bstatic\\s*\\{", "\\bvar\\b", "\\bThread\\b",
        "\\w+Exact\\b", "\\bSystem\\.(?!arraycopy)", "\\bObject\\b", "\\bjava\\.", "\\bdouble\\b", "\\bfloat\\b"
    };

    public static void main(String[] args) throws IOException {
        Check check = new Check("LanguageTest");
        String text = Files.readString(Path.of("src/main/java/BlockSound.java"));
        String code = text.replaceAll("(?s)/\\*.*?\\*/", "").replaceAll("//[^\n]*", "");
        for (String pattern : RULED_OUT) {
            check.due("found " + pattern, Pattern.compile(pattern).matcher(code).find(), false);
        }
        check.due("characters 0 to 127 alone", text.chars().allMatch(c -> c < 128), true);
        methodsStayShort(check, code.split("\n"));
        check.end();
    }

    private static void methodsStayShort(Check check, String[] lines) {
        int first = 0;
        for (int i = 0; i < lines.length; i++) {
            String line = lines[i];
            if (line.matches("( {4}| {8})[a-zA-Z].*\\) \\{")) {
                first = i;
            }
            if (line.matches("( {4}| {8})\\}")) {
                boolean isMethod = lines[first].indexOf(lines[first].trim()) == line.indexOf('}');
                check.due("the method at line " + first + " is short", !isMethod || i - first <= 60, true);
            }
        }
    }
}
