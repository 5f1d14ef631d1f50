import java.io.IOException;
import java.nio.file.Files;
import java.nio.file.Path;
import java.util.regex.Matcher;
import java.util.regex.Pattern;

/** What can be seen of ../shared/LANGUAGE.md in the program's text alone: no word and no sign that it forbids. */
public final class LanguageTest {
    private static final Check CHECK = new Check();

    private static final String[] FORBIDDEN = {
        "\\bpackage\\b", "\\bimport\\b", "\\bthrow\\b", "\\bthrows\\b", "\\btry\\b", "\\bcatch\\b", "\\bfinally\\b",
        "\\bsynchronized\\b", "\\bassert\\b", "\\bprotected\\b", "\\bvar\\b", "\\bsuper\\b", "->", "::", "\\bstatic\\s*\\{",
        "\\bnew\\s+[A-Z]\\w*\\([^)]*\\)\\s*\\{", "\\bSystem\\.(?!arraycopy)", "\\bThread\\b", "Exact\\b", "\\bObject\\b",
        "\\b(?:equals|hashCode|toString)\\b", "\\bjava\\.", "@",
    };

    public static void main(String[] args) throws IOException {
        String text = Files.readString(Path.of("src/main/java/SelfRows.java"));
        for (int i = 0; i < text.length(); i++) CHECK.due("sign " + i + " is from 1 to 127", text.charAt(i) < 128);
        String code = text.replaceAll("(?s)/\\*.*?\\*/", "").replaceAll("//[^\n]*", "");
        for (String pattern : FORBIDDEN) {
            Matcher found = Pattern.compile(pattern).matcher(code);
            CHECK.due("no " + pattern, !found.find());
        }
        Matcher fields = Pattern.compile("\\bstatic\\s+(?!final\\b)[\\w\\[\\]<>]+\\s+\\w+\\s*[=;]").matcher(code);
        CHECK.due("static fields are final", !fields.find());
        CHECK.end();
    }
}
