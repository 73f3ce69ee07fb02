import java.io.IOException;
import java.nio.file.Files;
import java.nio.file.Path;
import java.util.regex.Matcher;
import java.util.regex.Pattern;

/** The rules of LANGUAGE.md that can be seen in the words of the program. It is run from the project's folder. */
public final class LanguageTest {
    private static final String[] LEFT_OUT = {
        "\\bthrow\\b", "\\bthrows\\b", "\\btry\\b", "\\bcatch\\b", "\\bfinally\\b", "\\bsynchronized\\b",
        "\\bassert\\b", "\\bpackage\\b", "\\bimport\\b", "\\bprotected\\b", "\\bvolatile\\b", "\\bnative\\b",
        "->", "::", "\\bObject\\b", "\\bSystem\\.(?!arraycopy)", "\\bThread\\b", "\\bString\\.format\\b", "\\w+Exact\\b",
        "\\bnew \\w+\\([^)]*\\) *\\{", "\\bstatic *\\{", "\\bhashCode\\b", "\\btoString\\b", "\\bequals\\b"
    };

    public static void main(String[] args) throws IOException {
        Due due = new Due();
        String text = Files.readString(Path.of("src/main/java/DikeHands.java"));
        String code = text.replaceAll("(?s)/\\*.*?\\*/", " ").replaceAll("//[^\n]*", " ");
        for (String word : LEFT_OUT) {
            Matcher found = Pattern.compile(word).matcher(code);
            due.same("what is found of " + word, found.find() ? found.group() : "nothing", "nothing");
        }
        Matcher open = Pattern.compile("(?m)^\\s+static (?!final)[^(]*;").matcher(code);
        due.same("a static field that isn't final", open.find() ? open.group() : "none", "none");
        due.yes("at most twelve classes", code.split("\\b(class|record|enum|interface) ").length - 1 <= 12);
        due.end();
    }
}
