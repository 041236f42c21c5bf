import java.io.IOException;
import java.lang.reflect.Modifier;
import java.nio.file.Files;
import java.nio.file.Path;
import java.util.Arrays;
import java.util.Set;
import java.util.regex.Matcher;
import java.util.regex.Pattern;

/** What LANGUAGE.md rules out and a look at the text can find; run from the project's folder. */
public final class LanguageTest {
    private static final String[] RULED_OUT = {
        "\\bpackage\\b", "\\bimport\\b", "->", "::", "\\bsynchronized\\b", "\\bassert\\b", "\\bfinally\\b",
        "\\bthrow\\b", "\\bcatch\\b", "\\bprotected\\b", "\\bstatic\\s*\\{", "\\bvar\\b", "\\bThread\\b",
        "\\w+Exact\\b", "\\bObject\\b", "\\bjava\\.", "\\bdouble\\b", "\\bfloat\\b", "\\[\\]\\s*\\[\\]"
    };
    private static final Set<String> LIBRARY = Set.of("Math.min", "Math.floorDiv", "System.arraycopy");
    private static final int MOST_PARAMETERS = 7;
    private static final int MOST_FIELDS = 20;

    public static void main(String[] args) throws IOException {
        Check check = new Check("LanguageTest");
        String text = Files.readString(Path.of("src/main/java/BlockSound.java"));
        String code = text.replaceAll("(?s)/\\*.*?\\*/", "").replaceAll("//[^\n]*", "");
        for (String pattern : RULED_OUT) {
            check.due("found " + pattern, Pattern.compile(pattern).matcher(code).find(), false);
        }
        check.due("characters 0 to 127 alone", text.chars().allMatch(c -> c < 128), true);
        onlyTheListedLibrary(check, code);
        fewParameters(check, code);
        fewFields(check);
        methodsStayShort(check, code.split("\n"));
        check.end();
    }

    /** Rule 4 lists functions alone, so that a constant of the library would be outside it too. */
    private static void onlyTheListedLibrary(Check check, String code) {
        Matcher used = Pattern.compile("\\b([A-Z][a-z]\\w*\\.\\w+)").matcher(code);
        while (used.find()) {
            check.due("used " + used.group(1), LIBRARY.contains(used.group(1)), true);
        }
    }

    private static void fewParameters(Check check, String code) {
        Matcher head = Pattern.compile("\\w+ (\\w+)\\(([^()]*)\\) \\{").matcher(code);
        while (head.find()) {
            check.due("few parameters of " + head.group(1), head.group(2).split(",").length <= MOST_PARAMETERS, true);
        }
    }

    private static void fewFields(Check check) {
        check.due("few fields of the class", fieldsOf(BlockSound.class) <= MOST_FIELDS, true);
        for (Class<?> inside : BlockSound.class.getDeclaredClasses()) {
            check.due("few fields of " + inside, fieldsOf(inside) <= MOST_FIELDS, true);
        }
    }

    private static long fieldsOf(Class<?> c) {
        return Arrays.stream(c.getDeclaredFields()).filter(f -> !Modifier.isStatic(f.getModifiers())).count();
    }

    private static void methodsStayShort(Check check, String[] lines) {
        int first = 0;
        for (int i = 0; i < lines.length; i++) {
            String line = lines[i];
            if (line.matches("( {4}| {8})[a-zA-Z].*\\) \\{")) {
                first = i;
            }
            if (line.matches("( {4}| {8})\\}")) {
                boolean isMethod = lines[first].indexOf(lines[first].trim()) == line.indexOf('}');
                check.due("the method at line " + first + " is short", !isMethod || i - first <= 60, true);
            }
        }
    }
}
