import java.lang.reflect.Constructor;
import java.lang.reflect.Field;
import java.lang.reflect.Method;
import java.lang.reflect.Modifier;
import java.util.TreeSet;

/** The public face is the document's, and nothing more. */
public final class FaceTest {
    private static final String[] FACE = {
        "arrived/3 int", "bank/3 int", "buy/2 int", "called/2 int", "change/4 boolean", "chosen/2 int",
        "count/1 int", "go/1 int", "hire/2 int", "house/3 int", "law/3 int", "listed/3 int", "owed/2 int",
        "paper/1 boolean", "paperWeek/1 int", "river/3 boolean", "rod/3 boolean", "saved/2 int", "told/3 int",
        "village/2 boolean", "work/4 int"
    };

    public static void main(String[] args) {
        Due due = new Due();
        Class<?> c = DikeHands.class;
        due.yes("public final class", Modifier.isPublic(c.getModifiers()) && Modifier.isFinal(c.getModifiers()));
        due.same("the public methods", methodsOf(c, due), String.join(", ", FACE));
        due.same("the visible fields", fieldsOf(c), "NONE");
        due.is("NONE", DikeHands.NONE, -1);
        due.is("constructors", c.getDeclaredConstructors().length, 1);
        for (Constructor<?> k : c.getDeclaredConstructors()) {
            due.yes("public constructor without arguments",
                Modifier.isPublic(k.getModifiers()) && k.getParameterCount() == 0);
        }
        for (Class<?> inside : c.getDeclaredClasses()) {
            due.yes(inside.getName() + " is static", Modifier.isStatic(inside.getModifiers()));
            due.no(inside.getName() + " is public", Modifier.isPublic(inside.getModifiers()));
        }
        due.end();
    }

    private static String methodsOf(Class<?> c, Due due) {
        TreeSet<String> open = new TreeSet<>();
        TreeSet<String> names = new TreeSet<>();
        for (Method m : c.getDeclaredMethods()) {
            if (!Modifier.isPrivate(m.getModifiers())) {
                open.add(m.getName() + "/" + m.getParameterCount() + " " + m.getReturnType());
                names.add(m.getName());
                due.no(m.getName() + " is static", Modifier.isStatic(m.getModifiers()));
                for (Class<?> parameter : m.getParameterTypes()) {
                    due.yes(m.getName() + " takes ints", parameter == int.class);
                }
            }
        }
        for (Method m : c.getDeclaredMethods()) {
            due.no("private " + m.getName() + " bears a public name",
                Modifier.isPrivate(m.getModifiers()) && names.contains(m.getName()));
        }
        return String.join(", ", open);
    }

    private static String fieldsOf(Class<?> c) {
        TreeSet<String> open = new TreeSet<>();
        for (Field f : c.getDeclaredFields()) {
            if (!Modifier.isPrivate(f.getModifiers())) {
                open.add(f.getName());
            }
        }
        return String.join(", ", open);
    }
}
