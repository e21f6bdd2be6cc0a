import java.io.IOException;
import java.nio.file.Files;
import java.nio.file.Path;
import java.util.regex.Matcher;
import java.util.regex.Pattern;

/** What LANGUAGE.md rules out and a glance over the program's text can find; run from the project's directory. */
public final class SourceTest {
    private static final Due due = new Due();
    private static final Path PROGRAM = Path.of("src/main/java/StencilCompiler.java");
    private static final String[] RULED_OUT = {
        "\\bthrows?\\b", "\\btry\\b", "\\bcatch\\b", "\\bsynchronized\\b", "\\bassert\\b", "\\bpackage\\b",
        "->", "::", "\\bprotected\\b", "\\bstatic\\s*\\{", "Exact\\b", "\\bRandom\\b", "\\bThread\\b",
        "\\bSystem\\.(?!arraycopy)", "\\b(toString|hashCode|equals)\\b", "\\bimport (?!java\\.util\\.(Arrays|ArrayList|List|Iterator);)",
    };

    public static void main(String[] args) throws IOException {
        due.part("the program's text");
        String code = withoutComments(Files.readString(PROGRAM));
        for (String pattern : RULED_OUT) {
            Matcher matcher = Pattern.compile(pattern).matcher(code);
            due.holds("no " + pattern, !matcher.find());
        }
        due.end();
    }

    private static String withoutComments(String text) {
        return text.replaceAll("(?s)/\\*.*?\\*/", "").replaceAll("//[^\n]*", "");
    }
}
