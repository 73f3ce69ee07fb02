import java.io.IOException;
import java.lang.reflect.Executable;
import java.lang.reflect.Field;
import java.lang.reflect.Modifier;
import java.nio.file.Files;
import java.nio.file.Path;
import java.util.ArrayList;
import java.util.List;
import java.util.regex.Matcher;
import java.util.regex.Pattern;

/** The rules of LANGUAGE.md that can be seen in the words of the program. It is run from the project's folder. */
public final class LanguageTest {
    private static final String[] LEFT_OUT = {
        "\\bthrow\\b", "\\bthrows\\b", "\\btry\\b", "\\bcatch\\b", "\\bfinally\\b", "\\bsynchronized\\b",
        "\\bassert\\b", "\\bpackage\\b", "\\bimport\\b", "\\bprotected\\b", "\\bvolatile\\b", "\\bnative\\b",
        "->", "::", "\\bObject\\b", "\\bSystem\\.(?!arraycopy)", "\\bThread\\b", "\\bString\\.format\\b", "\\w+Exact\\b",
        "\\bnew \\w+\\([^)]*\\) *\\{", "\\bstatic *\\{", "\\bhashCode\\b", "\\btoString\\b", "\\bequals\\b",
        "\\bjava\\.", "\\bjavax\\.", "\\bMath\\.(?!max\\b|min\\b|abs\\b|floorDiv\\b|floorMod\\b)", "\\b[A-Z]\\w*\\[\\]\\[\\]",
        "while *\\( *true", "for *\\( *; *;"
    };
    private static final Due DUE = new Due();

    public static void main(String[] args) throws IOException {
        String text = Files.readString(Path.of("src/main/java/DikeHands.java"));
        String code = text.replaceAll("(?s)/\\*.*?\\*/", " ").replaceAll("//[^\n]*", " ");
        for (String word : LEFT_OUT) {
            Matcher found = Pattern.compile(word).matcher(code);
            DUE.same("what is found of " + word, found.find() ? found.group() : "nothing", "nothing");
        }
        Matcher open = Pattern.compile("(?m)^\\s+static (?!final)[^(]*;").matcher(code);
        DUE.same("a static field that isn't final", open.find() ? open.group() : "none", "none");
        DUE.yes("characters up to 255", text.chars().allMatch(c -> c <= 255));
        methodsAreShort(text);
        classesAreSmall();
        DUE.end();
    }

    /** Rule 11: a method has some sixty lines at most. It ends with the first brace that stands as deep as its head. */
    private static void methodsAreShort(String text) {
        Matcher method = Pattern.compile("(?ms)^( +)[^\\n;=]*\\([^\\n;]*\\) \\{$.*?^\\1\\}").matcher(text);
        int methods = 0;
        while (method.find()) {
            int lines = method.group().split("\n").length;
            DUE.yes("a method of " + lines + " lines: " + method.group().split("\n")[0].trim(), lines <= 60);
            methods++;
        }
        DUE.yes("methods are found", methods > 40);
    }

    /** Rule 11: twelve classes, seven parameters and twenty fields at most; rule 5: static fields are final. */
    private static void classesAreSmall() {
        List<Class<?>> classes = new ArrayList<>(List.of(DikeHands.class.getDeclaredClasses()));
        classes.add(DikeHands.class);
        DUE.yes("at most twelve classes", classes.size() <= 12);
        for (Class<?> c : classes) {
            int fields = 0;
            for (Field f : c.getDeclaredFields()) {
                boolean shared = Modifier.isStatic(f.getModifiers());
                DUE.yes(f + " is final, if it is static", !shared || Modifier.isFinal(f.getModifiers()));
                fields += shared ? 0 : 1;
            }
            DUE.yes(c + " has at most twenty fields", fields <= 20);
            parametersAreFew(c.getDeclaredMethods());
            parametersAreFew(c.getDeclaredConstructors());
        }
    }

    private static void parametersAreFew(Executable[] calls) {
        for (Executable call : calls) {
            DUE.yes(call + " takes at most seven", call.getParameterCount() <= 7);
        }
    }
}
