import java.lang.reflect.Constructor;
import java.lang.reflect.Field;
import java.lang.reflect.Method;
import java.lang.reflect.Modifier;
import java.util.Arrays;
import java.util.Set;
import java.util.TreeSet;
import java.util.stream.Collectors;

/** The public face is the document's, and nothing else of the class can be seen. */
public final class FaceTest {
    private static final Set<String> FACE = new TreeSet<>(Set.of(
        "int number(int)", "boolean over(int)", "int ask(int,int,int,int)", "int lock(int,int,int)",
        "int await(int,int)", "int next()", "boolean cancel(int)", "boolean end(int,int)",
        "boolean release(int,int)", "boolean drop(int)", "boolean clear(int)",
        "int holds(int,int,int)", "int locker(int,int)", "int on(int)", "int waiting(int)",
        "int wish(int)"));

    public static void main(String[] args) {
        Checks checks = new Checks();
        checks.part("the face");
        Class<?> type = LockDesk.class;
        checks.due("public", Modifier.isPublic(type.getModifiers()), true);
        checks.due("final", Modifier.isFinal(type.getModifiers()), true);
        Set<String> seen = new TreeSet<>();
        for (Method method : type.getDeclaredMethods()) {
            if (!Modifier.isPrivate(method.getModifiers()) && !method.isSynthetic()) {
                checks.due("public " + method.getName(), Modifier.isPublic(method.getModifiers()), true);
                seen.add(text(method));
            }
        }
        checks.due("the methods " + seen, seen.equals(FACE), true);
        for (Field field : type.getDeclaredFields()) {
            checks.due("private " + field.getName(), Modifier.isPrivate(field.getModifiers()), true);
        }
        Constructor<?>[] constructors = type.getDeclaredConstructors();
        checks.due("constructors", constructors.length, 1);
        checks.due("its parameters", constructors[0].getParameterCount(), 0);
        checks.finish("FaceTest");
    }

    private static String text(Method method) {
        String parameters = Arrays.stream(method.getParameterTypes()).map(Class::getName)
            .collect(Collectors.joining(","));
        return method.getReturnType().getName() + " " + method.getName() + "(" + parameters + ")";
    }
}
