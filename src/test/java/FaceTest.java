import java.lang.reflect.Constructor;
import java.lang.reflect.Field;
import java.lang.reflect.Method;
import java.lang.reflect.Modifier;
import java.util.Arrays;
import java.util.Set;
import java.util.TreeSet;

/** The public face of all promises: what the document lists, and nothing else that is not private. */
public final class FaceTest {
    private static final Set<String> METHODS = Set.of(
            "int function(int) IllegalArgumentException IllegalStateException",
            "int call(int, int, int) IndexOutOfBoundsException IllegalStateException",
            "boolean undo()",
            "int told(int, int)",
            "int graphs(int, int) UnsupportedOperationException",
            "int graph(int, int, int) IndexOutOfBoundsException UnsupportedOperationException",
            "boolean falls(int) IndexOutOfBoundsException UnsupportedOperationException",
            "boolean isSafe(int) IndexOutOfBoundsException UnsupportedOperationException",
            "int bad(int, int) UnsupportedOperationException",
            "int order(int, int)",
            "int reached(int)",
            "int product(long, int)",
            "int about(int)");

    public static void main(String[] args) {
        Class<?> face = RecursionProofs.class;
        Set<String> methods = new TreeSet<>();
        for (Method m : face.getDeclaredMethods()) {
            if (!Modifier.isPrivate(m.getModifiers())) {
                methods.add(written(m));
            }
        }
        Check check = new Check();
        check.same("methods " + methods, methods.equals(METHODS), true);
        check.same("final and public", Modifier.isFinal(face.getModifiers())
                && Modifier.isPublic(face.getModifiers()), true);
        Constructor<?>[] made = face.getDeclaredConstructors();
        check.same("one constructor", made.length, 1);
        check.same("without parameters", made[0].getParameterCount(), 0);
        check.same("public", Modifier.isPublic(made[0].getModifiers()), true);
        for (Field f : face.getDeclaredFields()) {
            check.same("field " + f.getName() + " is private",
                    Modifier.isPrivate(f.getModifiers()), !f.getName().equals("NONE"));
        }
        constant(check, face);
        check.end();
    }

    private static void constant(Check check, Class<?> face) {
        int made = 0;
        for (Field f : face.getFields()) {
            made++;
            check.same("the constant is NONE", f.getName().equals("NONE"), true);
            check.same("an int", f.getType() == int.class, true);
            check.same("static and final", Modifier.isStatic(f.getModifiers())
                    && Modifier.isFinal(f.getModifiers()), true);
        }
        check.same("one constant", made, 1);
        check.same("NONE", RecursionProofs.NONE, -1);
    }

    private static String written(Method m) {
        StringBuilder text = new StringBuilder();
        if (!Modifier.isPublic(m.getModifiers()) || Modifier.isStatic(m.getModifiers())) {
            text.append("hidden or static ");
        }
        text.append(m.getReturnType()).append(' ').append(m.getName()).append('(');
        text.append(String.join(", ",
                Arrays.stream(m.getParameterTypes()).map(Class::getName).toList()));
        text.append(')');
        for (Class<?> e : m.getExceptionTypes()) {
            text.append(' ').append(e.getSimpleName());
        }
        return text.toString();
    }
}
