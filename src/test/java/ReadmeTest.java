import java.io.IOException;
import java.lang.reflect.Method;
import java.nio.file.Files;
import java.nio.file.Path;
import java.util.TreeSet;
import java.util.regex.Matcher;
import java.util.regex.Pattern;
import java.util.stream.Stream;

/** What README.md says of the class and of its tests holds. It is run from the project's folder. */
public final class ReadmeTest {
    private static final Pattern STEP = Pattern.compile("(?m)^dikes\\.(\\w+)\\(([^)]*)\\); +// (true|false|-?\\d+)\\b.*$");
    private static final Due DUE = new Due();

    public static void main(String[] args) throws IOException, ReflectiveOperationException {
        String readme = Files.readString(Path.of("README.md"));
        theWalkAnswersAsItSays(readme);
        eachCallIsInTheTable(readme);
        eachTestIsNamed(readme);
        DUE.end();
    }

    private static void theWalkAnswersAsItSays(String readme) throws ReflectiveOperationException {
        DikeHands dikes = new DikeHands();
        TreeSet<String> walked = new TreeSet<>();
        int steps = 0;
        Matcher step = STEP.matcher(readme);
        while (step.find()) {
            DUE.same("README.md: " + step.group(), answer(dikes, step.group(1), step.group(2)), step.group(3));
            walked.add(step.group(1));
            steps++;
        }
        DUE.is("lines of README.md that were walked", steps, readme.split("(?m)^dikes\\.", -1).length - 1);
        DUE.same("the calls of the walk", walked.toString(), callsOfTheFace().toString());
    }

    private static String answer(DikeHands dikes, String name, String list) throws ReflectiveOperationException {
        String[] texts = list.split(", ");
        Object[] values = new Object[texts.length];
        Class<?>[] types = new Class<?>[texts.length];
        for (int i = 0; i < texts.length; i++) {
            values[i] = Integer.valueOf(texts[i]);
            types[i] = int.class;
        }
        return String.valueOf(DikeHands.class.getMethod(name, types).invoke(dikes, values));
    }

    private static TreeSet<String> callsOfTheFace() {
        TreeSet<String> names = new TreeSet<>();
        for (Method m : DikeHands.class.getMethods()) {
            if (m.getDeclaringClass() == DikeHands.class) {
                names.add(m.getName());
            }
        }
        return names;
    }

    private static void eachCallIsInTheTable(String readme) {
        for (String name : callsOfTheFace()) {
            DUE.yes("README.md has a row for " + name, readme.contains("\n| `" + name + "("));
        }
    }

    private static void eachTestIsNamed(String readme) throws IOException {
        try (Stream<Path> files = Files.list(Path.of("src/test/java"))) {
            for (Path file : (Iterable<Path>) files::iterator) {
                String name = file.getFileName().toString().replace(".java", "");
                DUE.yes("README.md names " + name, !name.endsWith("Test") || readme.contains("\n| " + name + " |"));
            }
        }
    }
}
