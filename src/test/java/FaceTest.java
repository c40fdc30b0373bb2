import java.lang.reflect.Constructor;
import java.lang.reflect.Field;
import java.lang.reflect.Method;
import java.lang.reflect.Modifier;
import java.util.Arrays;
import java.util.List;
import java.util.Set;
import java.util.TreeSet;

/** The public face, and rules 1, 2 and 5 of the language as far as the compiled class shows them. */
public final class FaceTest {
    private static final Set<String> METHODS = new TreeSet<>(List.of(
            "int token(int, int)", "int define()", "int clear()", "int spawn(int)", "int turn(int)", "int run(int)",
            "int tick(int)", "boolean abort(int)", "int put(int, int)", "int wake(int)", "int task(int, int)",
            "int worker(int, int)", "int injected(int)", "int gate(int, int)", "int count(int)"));
    private static final Set<String> CONSTANTS = new TreeSet<>(List.of(
            "REFUSED", "FULL", "IDLE", "QUEUED", "DONE", "FAILED", "CANCELLED"));

    public static void main(String[] args) {
        Class<?> face = PollYard.class;
        Due.is("public final", Modifier.isPublic(face.getModifiers()) && Modifier.isFinal(face.getModifiers()), true);
        methods(face);
        constants(face);
        constructors(face);
        classesInside(face);
        Due.end();
    }

    private static void methods(Class<?> face) {
        Set<String> open = new TreeSet<>();
        Set<String> hidden = new TreeSet<>();
        for (Method method : face.getDeclaredMethods()) {
            if (Modifier.isPrivate(method.getModifiers())) {
                hidden.add(method.getName());
                continue;
            }
            Due.is(method + " public", Modifier.isPublic(method.getModifiers()), true);
            Due.is(method + " static", Modifier.isStatic(method.getModifiers()), false);
            String parameters = Arrays.toString(method.getParameterTypes()).replace('[', '(').replace(']', ')');
            open.add(method.getReturnType() + " " + method.getName() + parameters);
        }
        Due.is("the methods " + open, open.equals(METHODS), true);
        for (String name : hidden) {
            Due.is("a private method of a public one's name: " + name, isPublicName(name), false);
        }
    }

    private static boolean isPublicName(String name) {
        return METHODS.stream().anyMatch(method -> method.contains(" " + name + "("));
    }

    private static void constants(Class<?> face) {
        Set<String> open = new TreeSet<>();
        for (Field field : face.getDeclaredFields()) {
            boolean fixed = Modifier.isFinal(field.getModifiers());
            Due.is(field + " static and not final", Modifier.isStatic(field.getModifiers()) && !fixed, false);
            if (!Modifier.isPrivate(field.getModifiers())) {
                boolean constant = Modifier.isPublic(field.getModifiers()) && Modifier.isStatic(field.getModifiers());
                Due.is(field + " public static int", constant && field.getType() == int.class, true);
                open.add(field.getName());
            }
        }
        Due.is("the constants " + open, open.equals(CONSTANTS), true);
        int[] values = {PollYard.REFUSED, PollYard.FULL, PollYard.IDLE, PollYard.QUEUED, PollYard.DONE,
            PollYard.FAILED, PollYard.CANCELLED};
        Due.is("values", Arrays.equals(values, new int[] {-1, -2, 0, 1, 2, 3, 4}), true);
    }

    private static void constructors(Class<?> face) {
        Constructor<?>[] all = face.getDeclaredConstructors();
        Due.is("constructors", all.length, 1);
        Due.is("public", Modifier.isPublic(all[0].getModifiers()), true);
        Due.is("parameters", all[0].getParameterCount(), 0);
    }

    private static void classesInside(Class<?> face) {
        Class<?>[] inside = face.getDeclaredClasses();
        Due.is("at most some twelve classes", inside.length < 12, true);
        for (Class<?> one : inside) {
            int how = one.getModifiers();
            Due.is(one + " static", Modifier.isStatic(how), true);
            Due.is(one + " open", Modifier.isPublic(how) || Modifier.isProtected(how), false);
            for (Method method : one.getDeclaredMethods()) {
                Due.is("a public one's name: " + one + " " + method.getName(), isPublicName(method.getName()), false);
            }
        }
    }
}
