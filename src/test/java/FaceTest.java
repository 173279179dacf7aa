import java.lang.reflect.Constructor;
import java.lang.reflect.Field;
import java.lang.reflect.Method;
import java.lang.reflect.Modifier;
import java.util.Arrays;
import java.util.Set;
import java.util.TreeSet;
import java.util.stream.Collectors;

/** The public face is the document's, nothing else of the class can be seen, and nothing is shared. */
public final class FaceTest {
    private static final Set<String> FACE = new TreeSet<>(Set.of(
        "int number(int)", "boolean over(int)", "int ask(int,int,int,int)", "int lock(int,int,int)",
        "int await(int,int)", "int next()", "boolean cancel(int)", "boolean end(int,int)",
        "boolean release(int,int)", "boolean drop(int)", "boolean clear(int)",
        "int holds(int,int,int)", "int locker(int,int)", "int on(int)", "int waiting(int)",
        "int wish(int)"));

    public static void main(String[] args) {
        Checks checks = new Checks();
        checks.part("the face");
        Class<?> type = LockDesk.class;
        checks.due("public", Modifier.isPublic(type.getModifiers()), true);
        checks.due("final", Modifier.isFinal(type.getModifiers()), true);
        Set<String> seen = new TreeSet<>();
        for (Method method : type.getDeclaredMethods()) {
            if (!Modifier.isPrivate(method.getModifiers()) && !method.isSynthetic()) {
                checks.due("public " + method.getName(), Modifier.isPublic(method.getModifiers()), true);
                seen.add(text(method));
            }
        }
        checks.due("the methods " + seen, seen.equals(FACE), true);
        Constructor<?>[] constructors = type.getDeclaredConstructors();
        checks.due("constructors", constructors.length, 1);
        checks.due("its parameters", constructors[0].getParameterCount(), 0);
        checks.due("public constructor", Modifier.isPublic(constructors[0].getModifiers()), true);
        checks.due("exceptions", constructors[0].getExceptionTypes().length, 0);
        namesAreNotSharedWithTheFace(checks, type);
        statesAreNotShared(checks, type);
        for (Class<?> inside : type.getDeclaredClasses()) {
            checks.part("the class inside, " + inside.getSimpleName());
            checks.due("private", Modifier.isPrivate(inside.getModifiers()), true);
            checks.due("static", Modifier.isStatic(inside.getModifiers()), true);
            namesAreNotSharedWithTheFace(checks, inside);
            statesAreNotShared(checks, inside);
        }
        checks.finish("FaceTest");
    }

    /** LANGUAGE.md, rule 1: no private method bears the name of a public one. */
    private static void namesAreNotSharedWithTheFace(Checks checks, Class<?> type) {
        Set<String> face = new TreeSet<>(Arrays.asList(Calls.NAMES));
        for (Method method : type.getDeclaredMethods()) {
            if (!Modifier.isPublic(method.getModifiers())) {
                checks.due(method.getName(), face.contains(method.getName()), false);
            }
        }
    }

    /** LANGUAGE.md, rule 5: what is static is final; the rest is private to its object. */
    private static void statesAreNotShared(Checks checks, Class<?> type) {
        for (Field field : type.getDeclaredFields()) {
            int modifiers = field.getModifiers();
            boolean apart = !Modifier.isStatic(modifiers) || Modifier.isFinal(modifiers);
            checks.due("apart: " + field.getName(), apart, true);
            checks.due("private: " + field.getName(), Modifier.isPrivate(modifiers), true);
        }
    }

    private static String text(Method method) {
        String parameters = Arrays.stream(method.getParameterTypes()).map(Class::getName)
            .collect(Collectors.joining(","));
        return method.getReturnType().getName() + " " + method.getName() + "(" + parameters + ")";
    }
}
