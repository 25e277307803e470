import java.lang.reflect.Constructor;
import java.lang.reflect.Field;
import java.lang.reflect.Method;
import java.lang.reflect.Modifier;
import java.util.Arrays;
import java.util.Set;
import java.util.TreeSet;

/** The public face, and rule 1 of LANGUAGE.md: nothing else can be seen from outside. */
public final class FaceTest {
    private static final String[] FACE = {
        "void species(int, int, int, int)",
        "void stand(int, int)",
        "int lend(int, int)",
        "int giveBack(int, int)",
        "int enter(int, int, int, int, int)",
        "int resolve(int, int)",
        "void meet(int, int)",
        "boolean swap()",
        "void part()",
        "void crash(int)",
        "int known(int, int)",
        "int holder(int, int, int)",
        "int value(int, int, int, int)",
        "int candidate(int, int, int, int, int)",
        "int conflict(int, int)",
        "long plot(int, int, int)",
        "long total(int, int, int)",
    };

    public static void main(String[] args) {
        Due due = new Due();
        int mods = ForestTablets.class.getModifiers();
        due.is("public and final", 1, () -> Modifier.isPublic(mods) && Modifier.isFinal(mods) ? 1 : 0);
        Set<String> want = new TreeSet<>(Arrays.asList(FACE));
        Set<String> got = new TreeSet<>();
        Set<String> names = new TreeSet<>();
        for (Method m : ForestTablets.class.getDeclaredMethods()) {
            if (!Modifier.isPrivate(m.getModifiers())) {
                got.add(written(m));
                names.add(m.getName());
            }
        }
        if (!want.equals(got)) {
            due.tell("the methods of the face", got.toString(), want.toString());
        }
        for (Method m : ForestTablets.class.getDeclaredMethods()) {
            boolean isPrivate = Modifier.isPrivate(m.getModifiers());
            due.is("private name " + m.getName(), 0, () -> isPrivate && names.contains(m.getName()) ? 1 : 0);
        }
        for (Field f : ForestTablets.class.getDeclaredFields()) {
            due.is("field " + f.getName(), 1, () -> Modifier.isPrivate(f.getModifiers()) ? 1 : 0);
        }
        Constructor<?>[] made = ForestTablets.class.getDeclaredConstructors();
        due.is("constructors", 1, () -> made.length);
        due.is("constructor", 1, () ->
            Modifier.isPublic(made[0].getModifiers()) && made[0].getParameterCount() == 0 ? 1 : 0);
        due.end();
    }

    private static String written(Method m) {
        String types = Arrays.toString(m.getParameterTypes());
        return m.getReturnType() + " " + m.getName() + "(" + types.substring(1, types.length() - 1) + ")";
    }
}
