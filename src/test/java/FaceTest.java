import java.lang.reflect.Constructor;
import java.lang.reflect.Field;
import java.lang.reflect.Method;
import java.lang.reflect.Modifier;
import java.util.Arrays;
import java.util.Set;
import java.util.TreeSet;
import java.util.stream.Collectors;

/** The public face: exactly the members of the document, and nothing else that others see. */
public final class FaceTest {
    private static final String INDEX = "IndexOutOfBoundsException";
    private static final String ARGUMENT = "IllegalArgumentException";
    private static final String STATE = "IllegalStateException";

    private static final String[] METHODS = {
        "int syllable(int) " + ARGUMENT + " " + STATE,
        "int word(int) " + ARGUMENT + " " + STATE,
        "int change(int,int,int,int,boolean) " + INDEX + " " + ARGUMENT + " " + STATE,
        "int spoken(int,int,int) " + INDEX,
        "int design(int,int) " + ARGUMENT + " " + STATE,
        "int assign(int,int,int,boolean) " + INDEX + " " + ARGUMENT + " " + STATE,
        "boolean mark(int,int,boolean) " + INDEX,
        "int spelled(int,int,int) " + INDEX,
        "int doubts(int) " + INDEX,
        "int load(int) " + INDEX,
        "int loadIf(int,int) " + INDEX,
        "long readings(int,int) " + INDEX,
        "long readingsAnew(int,int) " + INDEX,
        "int fit(int,int) " + INDEX,
        "int shape(int,int) " + INDEX + " " + ARGUMENT,
        "int apart(int,int) " + INDEX,
        "int clear(int) " + INDEX,
        "int errors(int,int) " + INDEX + " " + ARGUMENT,
        "int primer(int,int) " + INDEX,
        "int cost(int) " + INDEX,
        "int leastCost(int) " + INDEX + " " + STATE,
        "int key(int,int,int) " + INDEX,
        "int travel(int) " + INDEX,
        "int exchange(int) " + INDEX,
        "int group(int,int,int,int) " + INDEX + " " + ARGUMENT,
        "int score(int,int) " + INDEX,
        "int votes(int) " + INDEX,
        "int elected() " + STATE,
        "int reform(int,int) " + INDEX,
        "int lost(int,int) " + INDEX,
    };

    private static String names(Class<?>[] types, String between) {
        return Arrays.stream(types).map(Class::getSimpleName).collect(Collectors.joining(between));
    }

    private static String signature(Method method) {
        return method.getReturnType().getSimpleName() + " " + method.getName()
                + "(" + names(method.getParameterTypes(), ",") + ") "
                + names(method.getExceptionTypes(), " ");
    }

    public static void main(String[] args) {
        Check check = new Check("FaceTest");
        Set<String> seen = new TreeSet<>();
        for (Method method : Letterforge.class.getDeclaredMethods()) {
            if (Modifier.isPublic(method.getModifiers()) && !Modifier.isStatic(method.getModifiers())) {
                seen.add(signature(method));
            } else {
                check.due(method + " is private", true, () -> Modifier.isPrivate(method.getModifiers()));
            }
        }
        check.due("the methods", new TreeSet<>(Arrays.asList(METHODS)), () -> seen);

        Set<String> constants = new TreeSet<>();
        for (Field field : Letterforge.class.getDeclaredFields()) {
            if (!Modifier.isPrivate(field.getModifiers())) {
                constants.add(Modifier.toString(field.getModifiers()) + " " + field.getType() + " " + field.getName());
            }
        }
        Set<String> due = new TreeSet<>();
        for (String name : "NONE ONSET VOWEL CODA TONE LETTERS PAIRS".split(" ")) {
            due.add("public static final int " + name);
        }
        check.due("the constants", due, () -> constants);
        check.due("NONE", -1, () -> Letterforge.NONE);
        check.due("ONSET", 0, () -> Letterforge.ONSET);
        check.due("VOWEL", 1, () -> Letterforge.VOWEL);
        check.due("CODA", 2, () -> Letterforge.CODA);
        check.due("TONE", 3, () -> Letterforge.TONE);
        check.due("LETTERS", 0, () -> Letterforge.LETTERS);
        check.due("PAIRS", 1, () -> Letterforge.PAIRS);

        Set<String> faceNames = new TreeSet<>();
        for (String method : METHODS) {
            faceNames.add(method.substring(method.indexOf(' ') + 1, method.indexOf('(')));
        }
        for (Class<?> inner : Letterforge.class.getDeclaredClasses()) {
            check.due(inner + " is static", true, () -> Modifier.isStatic(inner.getModifiers()));
            check.due(inner + " is seen", false,
                    () -> Modifier.isPublic(inner.getModifiers()) || Modifier.isProtected(inner.getModifiers()));
            for (Method method : inner.getDeclaredMethods()) {
                check.due(method + " has a name of the face", false, () -> faceNames.contains(method.getName()));
            }
        }

        Constructor<?>[] constructors = Letterforge.class.getDeclaredConstructors();
        check.due("constructors", 1, () -> constructors.length);
        check.due("the constructor", "public Letterforge()", () -> constructors[0].toString());
        check.due("the class", "public final", () -> Modifier.toString(Letterforge.class.getModifiers()));
        check.end();
    }
}
