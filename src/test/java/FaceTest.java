import java.lang.reflect.Constructor;
import java.lang.reflect.Field;
import java.lang.reflect.Method;
import java.lang.reflect.Modifier;
import java.util.Arrays;
import java.util.TreeSet;

/** The public face, and nothing beside it. */
public final class FaceTest {
    public static void main(String[] args) {
        Class<?> face = TermReader.class;
        int modifiers = Modifier.PUBLIC | Modifier.FINAL;
        Checks.due("public final", face.getModifiers() & modifiers, modifiers);
        TreeSet<String> methods = new TreeSet<>();
        for (Method method : face.getDeclaredMethods()) {
            if (!Modifier.isPrivate(method.getModifiers()) && !method.isSynthetic()) {
                methods.add(told(method));
            }
        }
        Checks.due("methods", methods.toString(), new TreeSet<>(Arrays.asList(
            "int feed [int, int, int, int, int] [IndexOutOfBoundsException]",
            "int end [int] [IllegalArgumentException]",
            "int read [] [UnsupportedOperationException, IndexOutOfBoundsException]",
            "int about [int] [IllegalArgumentException]",
            "long word [int] [IndexOutOfBoundsException]",
            "int count [int] [IllegalArgumentException]")).toString());
        for (Field field : face.getDeclaredFields()) {
            Checks.due(field.getName() + " is private", Modifier.isPrivate(field.getModifiers()) ? 1 : 0, 1);
        }
        Constructor<?>[] constructors = face.getDeclaredConstructors();
        Checks.due("constructors", constructors.length, 1);
        Checks.due("its parameters", constructors[0].getParameterCount(), 0);
        Checks.finish();
    }

    private static String told(Method method) {
        return method.getReturnType() + " " + method.getName() + " "
            + names(method.getParameterTypes()) + " " + names(method.getExceptionTypes());
    }

    private static String names(Class<?>[] types) {
        return Arrays.stream(types).map(Class::getSimpleName).toList().toString();
    }
}
