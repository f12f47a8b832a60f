import java.lang.reflect.Constructor;
import java.lang.reflect.Field;
import java.lang.reflect.Method;
import java.lang.reflect.Modifier;
import java.util.Arrays;
import java.util.Set;
import java.util.TreeSet;

/** The public face: the document's members, and no other that is not private. */
public final class FaceTest {
    private static final String[] FACE = {
        "int token(int) IllegalArgumentException",
        "void glue(long, long, int, long, int) IllegalArgumentException",
        "int set(int, int, long, boolean) IllegalArgumentException IndexOutOfBoundsException UnsupportedOperationException",
        "long get(int, int) IllegalArgumentException IndexOutOfBoundsException",
        "long part(int, int) IndexOutOfBoundsException",
        "int at(int, int) IndexOutOfBoundsException",
        "int add(int, int, long, boolean) IllegalArgumentException IndexOutOfBoundsException UnsupportedOperationException",
        "int multiply(int, int, long, boolean) IllegalArgumentException IndexOutOfBoundsException UnsupportedOperationException",
        "int divide(int, int, long, boolean) IllegalArgumentException IndexOutOfBoundsException ArithmeticException UnsupportedOperationException",
        "int take(int) IndexOutOfBoundsException",
        "int group() UnsupportedOperationException",
        "int after(int) IllegalArgumentException IllegalStateException UnsupportedOperationException",
        "int end() IllegalStateException",
        "int restored(int, int) IndexOutOfBoundsException",
        "int behind(int)",
        "long scaled(int, int, int) IllegalArgumentException",
        "int fraction(int, int) IllegalArgumentException",
        "int shown(int, int, int) IllegalArgumentException IndexOutOfBoundsException",
        "int told(int, int) IllegalArgumentException IndexOutOfBoundsException",
    };

    private static String told(Method m) {
        StringBuilder text = new StringBuilder(m.getReturnType().getSimpleName() + " " + m.getName() + "(");
        for (int i = 0; i < m.getParameterTypes().length; i++) {
            text.append(i == 0 ? "" : ", ").append(m.getParameterTypes()[i].getSimpleName());
        }
        text.append(")");
        for (Class<?> e : m.getExceptionTypes()) {
            text.append(" ").append(e.getSimpleName());
        }
        return text.toString();
    }

    public static void main(String[] args) {
        Checks c = new Checks();
        Set<String> open = new TreeSet<>();
        Set<String> publicNames = new TreeSet<>();
        for (Method m : RegisterRows.class.getDeclaredMethods()) {
            if (!Modifier.isPrivate(m.getModifiers()) && !m.isSynthetic()) {
                open.add(told(m));
                publicNames.add(m.getName());
            }
        }
        c.dueText("the face", new TreeSet<>(Arrays.asList(FACE)).toString(), open.toString());
        for (Method m : RegisterRows.class.getDeclaredMethods()) {
            if (Modifier.isPrivate(m.getModifiers()) && publicNames.contains(m.getName())) {
                c.fault("a private method bears a public one's name: " + m.getName());
            }
        }
        for (Field f : RegisterRows.class.getDeclaredFields()) {
            if (!Modifier.isPrivate(f.getModifiers()) && !f.getName().equals("NONE")) {
                c.fault("a field that is not private: " + f.getName());
            }
            if (Modifier.isStatic(f.getModifiers()) && !Modifier.isFinal(f.getModifiers())) {
                c.fault("static state: " + f.getName());
            }
        }
        Constructor<?>[] made = RegisterRows.class.getDeclaredConstructors();
        c.due("how many constructors", 1, () -> made.length);
        c.due("its parameters", 0, () -> made[0].getParameterCount());
        c.due("it is public", 1, () -> Modifier.isPublic(made[0].getModifiers()) ? 1 : 0);
        int modifiers = RegisterRows.class.getModifiers();
        c.due("the class is public and final", 1, () -> Modifier.isPublic(modifiers) && Modifier.isFinal(modifiers) ? 1 : 0);
        c.due("NONE", -1, () -> RegisterRows.NONE);
        c.end();
    }
}
