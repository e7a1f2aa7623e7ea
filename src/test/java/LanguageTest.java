import java.io.IOException;
import java.nio.file.Files;
import java.nio.file.Path;
import java.util.regex.Matcher;
import java.util.regex.Pattern;

/** The rules of LANGUAGE.md that the text of the program shows by itself. Takes the program's path. */
public final class LanguageTest {
    private static final String[] REFUSED = {
        "\\b(import|package|throw|throws|try|catch|finally|synchronized|assert|volatile|transient|native|protected|var)\\b",
        "->", "::", "\\b(Object|Double|Float|Long\\.valueOf|Integer\\.valueOf|System\\.(?!arraycopy)|Thread|java\\.)",
        "\\b\\w+Exact\\b", "\\bstatic\\s*\\{", "@", "\\b(equals|hashCode|toString)\\s*\\(", "\\.\\.\\.",
        "\\[\\s*\\]\\s*\\[\\s*\\]\\s*\\[", "\\b(Integer|Long|Math)\\.(?!(compare|min|max|abs)\\()",
    };
    private static final int MOST_LINES = 60, MOST_CLASSES = 12;
    private static final Check check = new Check();

    public static void main(String[] args) throws IOException {
        String text = Files.readString(Path.of(args[0]));
        check.holds("signs are 1 to 127", text.chars().allMatch(c -> c > 0 && c < 128));
        String code = text.replaceAll("(?s)/\\*.*?\\*/", "").replaceAll("//[^\n]*", "");
        for (String refused : REFUSED) {
            Matcher matcher = Pattern.compile(refused).matcher(code);
            boolean found = matcher.find();
            check.holds("no " + refused + (found ? ", but " + matcher.group() : ""), !found);
        }
        nestedClasses(code);
        staticFields(code);
        methodLengths(code);
        check.end("LanguageTest");
    }

    private static void nestedClasses(String code) {
        Matcher matcher = Pattern.compile("(?m)^(.*)\\b(?:class|interface|enum|record) (\\w+)").matcher(code);
        int classes = 0;
        while (matcher.find()) {
            classes++;
            boolean outer = matcher.group(2).equals("KindRows");
            check.holds(matcher.group(2) + " is static", outer || matcher.group(1).contains("static"));
        }
        check.holds(classes + " classes", classes >= 1 && classes <= MOST_CLASSES);
    }

    private static void staticFields(String code) {
        Matcher matcher = Pattern.compile("(?m)^[^({\n]*\\bstatic\\b[^({\n]*[;=]").matcher(code);
        while (matcher.find()) {
            check.holds("final:" + matcher.group(), matcher.group().contains("final"));
        }
    }

    private static void methodLengths(String code) {
        Matcher matcher = Pattern.compile("(?ms)^( {4,8})\\S[^;={}]*\\([^;={}]*\\) \\{\n(.*?)^\\1\\}").matcher(code);
        int methods = 0;
        while (matcher.find()) {
            methods++;
            long lines = matcher.group(2).lines().count();
            check.holds("a method of " + lines + " lines", lines <= MOST_LINES);
        }
        check.holds(methods + " methods were looked at", methods > 60);
    }
}
