import java.lang.reflect.Constructor;
import java.lang.reflect.Field;
import java.lang.reflect.Method;
import java.lang.reflect.Modifier;
import java.util.Arrays;
import java.util.Set;
import java.util.TreeSet;

/** The public face, as the document writes it, and nothing else that can be seen from outside. */
public final class FaceTest {
    private static final Checks CHECKS = new Checks();

    private static final String ARG = "IllegalArgumentException";
    private static final String BOTH = "IllegalArgumentException, IllegalStateException";
    private static final String[] FACE = {
        "void format() ",
        "int write(int, int, int) " + BOTH,
        "int fill(int, long, long) " + BOTH,
        "int read(int, int, boolean) " + BOTH,
        "int spill(int) " + BOTH,
        "int commit(boolean) IllegalStateException",
        "int abort() IllegalStateException",
        "int flush() IllegalStateException",
        "boolean fail(long) ",
        "int damage(int, int, int) " + ARG,
        "int disk(int, int) " + ARG,
        "int place(int, int) " + BOTH,
        "boolean free(int) " + BOTH,
        "int held(int, int) " + ARG,
        "int total(int) " + ARG,
    };

    public static void main(String[] args) {
        Class<?> face = FlipPages.class;
        CHECKS.equal("public and final", face.getModifiers(), Modifier.PUBLIC | Modifier.FINAL);
        CHECKS.equal("NONE", FlipPages.NONE, -1);
        CHECKS.same("the methods", seenMethods(face).toString(), new TreeSet<>(Arrays.asList(FACE)).toString());
        CHECKS.same("the fields", seenFields(face).toString(), "[public static final NONE]");
        Constructor<?>[] constructors = face.getDeclaredConstructors();
        CHECKS.equal("constructors", constructors.length, 1);
        CHECKS.equal("the constructor's parameters", constructors[0].getParameterCount(), 0);
        CHECKS.equal("the constructor is public", constructors[0].getModifiers(), Modifier.PUBLIC);
        noPrivateMethodBearsAPublicName(face);
        CHECKS.end();
    }

    private static Set<String> seenMethods(Class<?> face) {
        Set<String> seen = new TreeSet<>();
        for (Method m : face.getDeclaredMethods()) {
            if (!Modifier.isPrivate(m.getModifiers()) && !m.isSynthetic()) {
                seen.add(m.getReturnType() + " " + m.getName() + "(" + names(m.getParameterTypes()) + ") "
                        + names(m.getExceptionTypes()));
            }
        }
        return seen;
    }

    private static String names(Class<?>[] types) {
        return String.join(", ", Arrays.stream(types).map(Class::getSimpleName).toArray(String[]::new));
    }

    private static Set<String> seenFields(Class<?> face) {
        Set<String> seen = new TreeSet<>();
        for (Field f : face.getDeclaredFields()) {
            if (!Modifier.isPrivate(f.getModifiers())) {
                seen.add(Modifier.toString(f.getModifiers()) + " " + f.getName());
            }
        }
        return seen;
    }

    private static void noPrivateMethodBearsAPublicName(Class<?> face) {
        Set<String> open = new TreeSet<>();
        for (Method m : face.getMethods()) {
            open.add(m.getName());
        }
        for (Method m : face.getDeclaredMethods()) {
            CHECKS.no(m.getName(), Modifier.isPrivate(m.getModifiers()) && open.contains(m.getName()));
        }
        for (Class<?> inside : face.getDeclaredClasses()) {
            for (Method m : inside.getDeclaredMethods()) {
                CHECKS.no(inside.getName() + "." + m.getName(), open.contains(m.getName()));
            }
        }
    }
}
