import java.lang.reflect.Constructor;
import java.lang.reflect.Field;
import java.lang.reflect.Method;
import java.lang.reflect.Modifier;
import java.util.Arrays;
import java.util.Set;
import java.util.TreeSet;

/** The public face as a whole, and LANGUAGE.md's rules 1 and 5 on it. */
public final class FaceTest {
    /** Each public method with the number of its parameters and the exceptions of its throws clause. */
    private static final Set<String> FACE = new TreeSet<>(Arrays.asList(
            "table 4 IllegalArgumentException",
            "policy 4 IllegalArgumentException IllegalStateException UnsupportedOperationException"
                + " ArithmeticException",
            "install 1 IllegalArgumentException",
            "act 2 IllegalArgumentException UnsupportedOperationException IllegalStateException ArithmeticException",
            "ask 2 IllegalArgumentException",
            "detail 3 IllegalArgumentException IllegalStateException",
            "total 1 IllegalArgumentException",
            "state 1",
            "noted 1",
            "count 1"));

    public static void main(String[] args) {
        Check check = new Check();
        Class<?> c = PolicyMonitor.class;
        if (!Modifier.isPublic(c.getModifiers()) || !Modifier.isFinal(c.getModifiers())) {
            check.tell("the class is not public and final");
        }
        Constructor<?>[] made = c.getDeclaredConstructors();
        if (made.length != 1 || !Modifier.isPublic(made[0].getModifiers()) || made[0].getParameterCount() != 0) {
            check.tell("there is not just one public constructor without parameters");
        }
        checkMethods(check, c);
        checkFields(check, c);
        checkClassesInside(check, c);
        check.end();
    }

    private static void checkMethods(Check check, Class<?> c) {
        Set<String> open = new TreeSet<>();
        Set<String> names = new TreeSet<>();
        for (Method m : c.getDeclaredMethods()) {
            if (Modifier.isPublic(m.getModifiers())) {
                open.add(described(m));
                names.add(m.getName());
                checkInts(check, m);
            }
        }
        if (!open.equals(FACE)) {
            check.tell("the public methods are " + open);
        }
        for (Method m : c.getDeclaredMethods()) {
            if (Modifier.isPublic(m.getModifiers())) {
                continue;
            }
            if (!Modifier.isPrivate(m.getModifiers()) || names.contains(m.getName())) {
                check.tell("not private, or named as a public method: " + m);
            }
        }
    }

    private static String described(Method m) {
        StringBuilder text = new StringBuilder(m.getName() + " " + m.getParameterCount());
        for (Class<?> type : m.getExceptionTypes()) {
            text.append(' ').append(type.getSimpleName());
        }
        return text.toString();
    }

    private static void checkInts(Check check, Method m) {
        boolean ints = m.getReturnType() == int.class && !Modifier.isStatic(m.getModifiers());
        for (Class<?> type : m.getParameterTypes()) {
            ints &= type == int.class;
        }
        if (!ints) {
            check.tell("not as in the document's face: " + m);
        }
    }

    private static void checkFields(Check check, Class<?> c) {
        for (Field f : c.getDeclaredFields()) {
            boolean hidden = Modifier.isPrivate(f.getModifiers());
            boolean changes = Modifier.isStatic(f.getModifiers()) && !Modifier.isFinal(f.getModifiers());
            if (!hidden || changes) {
                check.tell("a field that is not private, or static and not final: " + f);
            }
        }
    }

    private static void checkClassesInside(Check check, Class<?> c) {
        for (Class<?> inside : c.getDeclaredClasses()) {
            int m = inside.getModifiers();
            if (Modifier.isPublic(m) || Modifier.isProtected(m) || !Modifier.isStatic(m)) {
                check.tell("a class inside that can be seen from outside, or is not static: " + inside);
            }
        }
    }
}
