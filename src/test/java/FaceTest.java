import java.lang.reflect.Constructor;
import java.lang.reflect.Field;
import java.lang.reflect.Method;
import java.lang.reflect.Modifier;
import java.util.Arrays;
import java.util.HashSet;
import java.util.Set;
import java.util.TreeSet;

/** The public face: every constructor and method of the document, and nothing else. */
public final class FaceTest {
    private static final String[] FACE = {
        "int herb(int, int) IllegalArgumentException IllegalStateException",
        "int hang(int, int, int, int) IndexOutOfBoundsException IllegalArgumentException IllegalStateException",
        "int take(int, int) IndexOutOfBoundsException IllegalStateException",
        "int move(int, int, int, int) IndexOutOfBoundsException IllegalStateException",
        "int turn(int) IndexOutOfBoundsException",
        "int setWindow(int) IllegalArgumentException",
        "int order(int, int, int) IndexOutOfBoundsException IllegalArgumentException IllegalStateException",
        "int fill()",
        "int pass(int, int) IllegalArgumentException",
        "int told(int, int, int) IndexOutOfBoundsException",
        "int about(int, int) IndexOutOfBoundsException",
        "int asked(int, int) IndexOutOfBoundsException",
        "int count(int) IndexOutOfBoundsException",
        "int until(int, int, int, int) IndexOutOfBoundsException IllegalArgumentException",
        "int foresee(int, int, int) IllegalArgumentException IndexOutOfBoundsException",
        "int advise(int, int) IllegalArgumentException",
        "double mean()",
        "long digest()",
    };

    public static void main(String[] args) {
        Set<String> got = new TreeSet<>();
        Set<String> publicNames = new HashSet<>();
        for (Method method : HerbLoft.class.getDeclaredMethods()) {
            if (Modifier.isPublic(method.getModifiers())) {
                got.add(told(method));
                publicNames.add(method.getName());
            } else if (!Modifier.isPrivate(method.getModifiers()) && !method.isSynthetic()) {
                Check.note("neither public nor private: " + method);
            }
        }
        Set<String> want = new TreeSet<>(Arrays.asList(FACE));
        if (!got.equals(want)) {
            Check.note("the face is " + got + ", due is " + want);
        }
        for (Method method : HerbLoft.class.getDeclaredMethods()) {
            if (Modifier.isPrivate(method.getModifiers()) && publicNames.contains(method.getName())) {
                Check.note("a private method bears the name of a public one: " + method);
            }
        }
        for (Field field : HerbLoft.class.getDeclaredFields()) {
            if (!Modifier.isPrivate(field.getModifiers())) {
                Check.note("a field that is not private: " + field);
            }
        }
        for (Constructor<?> constructor : HerbLoft.class.getDeclaredConstructors()) {
            if (!Modifier.isPublic(constructor.getModifiers()) || constructor.getParameterCount() != 0) {
                Check.note("another constructor: " + constructor);
            }
        }
        int modifiers = HerbLoft.class.getModifiers();
        if (!Modifier.isPublic(modifiers) || !Modifier.isFinal(modifiers)) {
            Check.note("the class is not public and final");
        }
        Check.end();
    }

    private static String told(Method method) {
        StringBuilder text = new StringBuilder();
        text.append(method.getReturnType().getName()).append(' ').append(method.getName()).append('(');
        for (int i = 0; i < method.getParameterCount(); i++) {
            text.append(i == 0 ? "" : ", ").append(method.getParameterTypes()[i].getName());
        }
        text.append(')');
        for (Class<?> exception : method.getExceptionTypes()) {
            text.append(' ').append(exception.getSimpleName());
        }
        return text.toString();
    }
}
