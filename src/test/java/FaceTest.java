import java.lang.reflect.Constructor;
import java.lang.reflect.Field;
import java.lang.reflect.Method;
import java.lang.reflect.Modifier;
import java.util.Arrays;
import java.util.Set;
import java.util.TreeSet;
import java.util.stream.Collectors;

/** The public face, and rule 1 of LANGUAGE.md: nothing else can be seen from outside. */
public final class FaceTest {
    private static final String[] FACE = {
        "void species(int, int, int, int) throws IllegalArgumentException",
        "void stand(int, int) throws IllegalArgumentException",
        "int lend(int, int) throws IllegalArgumentException, IllegalStateException",
        "int giveBack(int, int) throws IllegalArgumentException, IllegalStateException",
        "int enter(int, int, int, int, int) throws IllegalArgumentException, IllegalStateException",
        "int resolve(int, int) throws NoSuchElementException, IllegalArgumentException, IllegalStateException",
        "void meet(int, int) throws IllegalArgumentException, IllegalStateException",
        "boolean swap() throws IllegalStateException",
        "void part() throws IllegalStateException",
        "void crash(int) throws IllegalArgumentException",
        "int known(int, int) throws IllegalArgumentException",
        "int holder(int, int, int) throws IllegalArgumentException",
        "int value(int, int, int, int) throws IllegalArgumentException, NoSuchElementException",
        "int candidate(int, int, int, int, int) throws IllegalArgumentException",
        "int conflict(int, int) throws IllegalArgumentException",
        "long plot(int, int, int) throws IllegalArgumentException",
        "long total(int, int, int) throws IllegalArgumentException",
    };

    public static void main(String[] args) {
        Due due = new Due();
        int mods = ForestTablets.class.getModifiers();
        due.is("public and final", 1, () -> Modifier.isPublic(mods) && Modifier.isFinal(mods) ? 1 : 0);
        Set<String> want = new TreeSet<>(Arrays.asList(FACE));
        Set<String> got = new TreeSet<>();
        Set<String> names = new TreeSet<>();
        for (Method m : ForestTablets.class.getDeclaredMethods()) {
            if (!Modifier.isPrivate(m.getModifiers())) {
                got.add(written(m));
                names.add(m.getName());
            }
        }
        due.same("the methods of the face", got.toString(), want.toString());
        for (Method m : ForestTablets.class.getDeclaredMethods()) {
            boolean isPrivate = Modifier.isPrivate(m.getModifiers());
            due.is("private name " + m.getName(), 0, () -> isPrivate && names.contains(m.getName()) ? 1 : 0);
        }
        for (Field f : ForestTablets.class.getDeclaredFields()) {
            due.is("field " + f.getName(), 1, () -> Modifier.isPrivate(f.getModifiers()) ? 1 : 0);
        }
        for (Class<?> c : ForestTablets.class.getDeclaredClasses()) {
            int m = c.getModifiers();
            due.is("class " + c.getSimpleName(), 1, () ->
                Modifier.isStatic(m) && !Modifier.isPublic(m) && !Modifier.isProtected(m) ? 1 : 0);
        }
        Constructor<?>[] made = ForestTablets.class.getDeclaredConstructors();
        due.is("constructors", 1, () -> made.length);
        due.is("constructor", 1, () ->
            Modifier.isPublic(made[0].getModifiers()) && made[0].getParameterCount() == 0 ? 1 : 0);
        due.end();
    }

    private static String written(Method m) {
        return m.getReturnType() + " " + m.getName() + "(" + listed(m.getParameterTypes()) + ") throws "
            + listed(m.getExceptionTypes());
    }

    private static String listed(Class<?>[] types) {
        return Arrays.stream(types).map(Class::getSimpleName).collect(Collectors.joining(", "));
    }
}
