import java.nio.file.Files;
import java.nio.file.Path;
import java.util.regex.Matcher;
import java.util.regex.Pattern;

/** Rules of LANGUAGE.md that can be seen in the text of the class. */
public final class LanguageTest {
    private static final String[] FORBIDDEN = {
        "^package ", "^import ", "->", "::", "\\bsynchronized\\b", "\\bassert\\b", "\\bfinally\\b", "\\btry\\b",
        "\\bthrow\\b", "\\bvar\\b", "\\bSystem\\.", "\\bNaN\\b", "\\bwhile \\(true\\)", "[^\\x00-\\x7f]",
        "\\bstatic \\{", "\\bstatic (?:final )?(?:float|double|short)\\b[^(]*=",
        "\\bMath\\.(?!min\\(|max\\(|floorMod\\()",
    };
    private static final int LONGEST_METHOD = 60;

    public static void main(String[] args) throws Exception {
        Check check = new Check();
        String source = Files.readString(Path.of(args.length > 0 ? args[0] : "src/main/java/MazeBoard.java"));
        for (String words : FORBIDDEN) {
            Matcher matcher = Pattern.compile(words, Pattern.MULTILINE).matcher(source);
            check.due("a use of " + words, matcher.find() ? matcher.group() : "", "");
        }
        Pattern changing = Pattern.compile("\\bstatic (?!final)[\\w\\[\\]]+ \\w+( =|;)");
        check.holds("static fields are final", !changing.matcher(source).find());
        methodsAreShort(check, source);
        check.end();
    }

    private static void methodsAreShort(Check check, String source) {
        String[] lines = source.split("\n");
        int begin = 0;
        for (int i = 0; i < lines.length; i++) {
            if (lines[i].matches(" {4,8}\\S.*\\) \\{")) {
                begin = i;
            }
            if (lines[i].matches(" {4,8}}")) {
                check.holds("the method at line " + (begin + 1) + " is short", begin == 0 || i - begin < LONGEST_METHOD);
                begin = 0;
            }
        }
    }
}
