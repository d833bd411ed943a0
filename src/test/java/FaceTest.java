import java.lang.reflect.Constructor;
import java.lang.reflect.Field;
import java.lang.reflect.Method;
import java.lang.reflect.Modifier;
import java.util.Arrays;
import java.util.Set;
import java.util.TreeSet;

/** The document's public face, and rules 1, 2, 5 and 11 of LANGUAGE.md as far as a class tells them. */
public final class FaceTest {
    private static final Check check = new Check();
    private static final String[] METHODS = {
        "int part(int, int, int, int, int, int)", "int step(int, int, int)", "int shell(int, int, int)",
        "long taken(int)", "long kept(int)", "int line(int, int, int, int)", "int clear(int)",
        "int load(int, int, int)", "int unload(int, int)", "int probe(int, int, boolean, int)",
        "int run(int)", "int tick(int)", "int stop(int)", "int survey(int, int)", "int about(int, int)",
        "int runAt(int, int)", "int paper(int, int, int)", "int job(int, int)", "int clearJobs()",
        "int lateness()", "int order(int)", "int count(int)", "long digest()"
    };

    public static void main(String[] args) {
        constants();
        classItself();
        methods();
        fields();
        nestedClasses();
        check.end();
    }

    private static void constants() {
        check.due("NONE", HardShop.NONE, -1);
        check.due("BAD", HardShop.BAD, -2);
        check.due("NO", HardShop.NO, -3);
        check.due("FULL", HardShop.FULL, -4);
    }

    private static void classItself() {
        int modifiers = HardShop.class.getModifiers();
        check.that("public and final", Modifier.isPublic(modifiers) && Modifier.isFinal(modifiers));
        Constructor<?>[] makers = HardShop.class.getDeclaredConstructors();
        check.due("constructors", makers.length, 1);
        check.that("public, without parameters",
                Modifier.isPublic(makers[0].getModifiers()) && makers[0].getParameterCount() == 0);
    }

    private static String faceOf(Method m) {
        String parameters = Arrays.toString(m.getParameterTypes());
        return m.getReturnType() + " " + m.getName() + "(" + parameters.substring(1, parameters.length() - 1) + ")";
    }

    private static void methods() {
        Set<String> open = new TreeSet<>();
        Set<String> openNames = new TreeSet<>();
        Set<String> hiddenNames = new TreeSet<>();
        for (Method m : HardShop.class.getDeclaredMethods()) {
            check.that(m + " has at most seven parameters", m.getParameterCount() <= 7);
            if (Modifier.isPrivate(m.getModifiers())) {
                hiddenNames.add(m.getName());
            } else {
                check.that(m + " is public and no static one",
                        Modifier.isPublic(m.getModifiers()) && !Modifier.isStatic(m.getModifiers()));
                open.add(faceOf(m));
                openNames.add(m.getName());
            }
        }
        check.that("the face's methods and no others: " + open, open.equals(new TreeSet<>(Arrays.asList(METHODS))));
        hiddenNames.retainAll(openNames);
        check.that("no private method bears the name of a public one: " + hiddenNames, hiddenNames.isEmpty());
    }

    private static void fields() {
        Set<String> open = new TreeSet<>();
        for (Field f : HardShop.class.getDeclaredFields()) {
            int modifiers = f.getModifiers();
            check.that(f + " is final if static", !Modifier.isStatic(modifiers) || Modifier.isFinal(modifiers));
            if (!Modifier.isPrivate(modifiers)) {
                check.that(f + " is a public constant", Modifier.isPublic(modifiers) && Modifier.isStatic(modifiers));
                open.add(f.getName());
            }
        }
        check.that("the face's constants and no others: " + open,
                open.equals(new TreeSet<>(Arrays.asList("NONE", "BAD", "NO", "FULL"))));
    }

    private static void nestedClasses() {
        Class<?>[] inside = HardShop.class.getDeclaredClasses();
        check.that("at most twelve classes", inside.length < 12);
        for (Class<?> c : inside) {
            int modifiers = c.getModifiers();
            check.that(c + " is static", Modifier.isStatic(modifiers));
            check.that(c + " is not open", !Modifier.isPublic(modifiers) && !Modifier.isProtected(modifiers));
            int fields = 0;
            for (Field f : c.getDeclaredFields()) {
                if (Modifier.isStatic(f.getModifiers())) {
                    check.that(f + " is final", Modifier.isFinal(f.getModifiers()));
                } else {
                    fields++;
                }
            }
            check.that(c + " has at most twenty fields", fields <= 20);
        }
    }
}
