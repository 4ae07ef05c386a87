import java.lang.reflect.Constructor;
import java.lang.reflect.Field;
import java.lang.reflect.Method;
import java.lang.reflect.Modifier;
import java.util.Arrays;
import java.util.TreeMap;
import java.util.TreeSet;

/** The class has the document's face and no other member that can be seen from outside. */
public final class FaceTest {
    private static final String[] METHODS = {
        "int prop(int, int)", "int set(int, int, int)", "int slot(int, int)", "int held(int)", "int hand()",
        "int cue(int, int, int, int)", "int strike()", "int play(int, int)", "int miscue(int)", "long points()",
        "int is(int, int)", "long worth(int, int)", "int wear(int)", "int at(int, int)", "int count(int)",
    };
    private static final String[] CONSTANTS = {"NONE", "BAD", "FULL", "EMPTY", "CAST", "INDEX", "STORE"};

    private final Check check = new Check("FaceTest");

    public static void main(String[] args) throws IllegalAccessException {
        FaceTest test = new FaceTest();
        test.classAndConstructor();
        test.methods();
        test.fields();
        test.classesInside();
        test.check.end();
    }

    private void classAndConstructor() {
        check.due("modifiers", PropStore.class.getModifiers(), Modifier.PUBLIC | Modifier.FINAL);
        Constructor<?>[] constructors = PropStore.class.getDeclaredConstructors();
        check.due("constructors", constructors.length, 1);
        check.due("the constructor's parameters", constructors[0].getParameterCount(), 0);
        check.due("the constructor's modifiers", constructors[0].getModifiers(), Modifier.PUBLIC);
    }

    private void methods() {
        TreeSet<String> seen = new TreeSet<>();
        TreeSet<String> publicNames = new TreeSet<>();
        for (Method method : PropStore.class.getDeclaredMethods()) {
            if (Modifier.isPrivate(method.getModifiers())) {
                continue;
            }
            check.due(method + ": modifiers", method.getModifiers(), Modifier.PUBLIC);
            seen.add(signature(method));
            publicNames.add(method.getName());
        }
        TreeSet<String> want = new TreeSet<>(Arrays.asList(METHODS));
        check.that("methods are " + seen + ", due are " + want, seen.equals(want));
        for (Method method : PropStore.class.getDeclaredMethods()) {
            boolean isPrivate = Modifier.isPrivate(method.getModifiers());
            check.that(method + " bears a public name", !isPrivate || !publicNames.contains(method.getName()));
        }
    }

    private static String signature(Method method) {
        StringBuilder text = new StringBuilder(method.getReturnType() + " " + method.getName() + "(");
        for (int k = 0; k < method.getParameterCount(); k++) {
            text.append(k == 0 ? "" : ", ").append(method.getParameterTypes()[k]);
        }
        return text.append(")").toString();
    }

    private void fields() throws IllegalAccessException {
        TreeMap<String, Integer> seen = new TreeMap<>();
        for (Field field : PropStore.class.getDeclaredFields()) {
            int modifiers = field.getModifiers();
            check.that(field + " is static and not final", !Modifier.isStatic(modifiers) || Modifier.isFinal(modifiers));
            if (!Modifier.isPrivate(modifiers)) {
                check.due(field + ": modifiers", modifiers, Modifier.PUBLIC | Modifier.STATIC | Modifier.FINAL);
                seen.put(field.getName(), field.getInt(null));
            }
        }
        TreeMap<String, Integer> want = new TreeMap<>();
        for (int k = 0; k < CONSTANTS.length; k++) {
            want.put(CONSTANTS[k], -1 - k);
        }
        check.that("constants are " + seen + ", due are " + want, seen.equals(want));
    }

    private void classesInside() {
        Class<?>[] inside = PropStore.class.getDeclaredClasses();
        check.that("too many classes", inside.length <= 11);
        for (Class<?> one : inside) {
            int modifiers = one.getModifiers();
            check.that(one + " is not static", Modifier.isStatic(modifiers));
            check.that(one + " is public or protected", !Modifier.isPublic(modifiers) && !Modifier.isProtected(modifiers));
            for (Field field : one.getDeclaredFields()) {
                check.that(field + " is static", !Modifier.isStatic(field.getModifiers()));
            }
        }
    }
}
