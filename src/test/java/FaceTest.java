import java.lang.reflect.Constructor;
import java.lang.reflect.Field;
import java.lang.reflect.Method;
import java.lang.reflect.Modifier;
import java.util.Set;
import java.util.TreeSet;
import java.util.stream.Collectors;
import java.util.stream.Stream;

/** The public face, and what LANGUAGE.md's rules 1 and 5 say of members. */
public final class FaceTest {
    private static final String INDEX = "IndexOutOfBoundsException";
    private static final String ARGUMENT = "IllegalArgumentException";
    private static final String STATE = "IllegalStateException";
    private static final Set<String> FACE = Set.of(
        "int table(int, double, double) " + INDEX + " " + ARGUMENT + " " + STATE,
        "double radius(int, double) " + INDEX + " " + ARGUMENT + " " + STATE,
        "int strips(int, double, double) " + INDEX + " " + ARGUMENT,
        "int read(int, double, double) " + INDEX + " " + ARGUMENT + " " + STATE,
        "int fit(int, int) " + INDEX + " " + ARGUMENT,
        "double back(int, int) " + INDEX,
        "double form(int, double) " + INDEX + " " + ARGUMENT,
        "double minutes(double) " + ARGUMENT,
        "int piece(double, double) " + ARGUMENT + " " + STATE,
        "void clear()",
        "double length(boolean, double) " + ARGUMENT,
        "int kerfs(double, double, double, double) " + ARGUMENT,
        "double kerfAt(int, double) " + STATE + " " + INDEX + " " + ARGUMENT,
        "double rest() " + STATE,
        "long broken(int, int, int) " + INDEX + " " + ARGUMENT,
        "double relaxed(int, int) " + INDEX + " " + ARGUMENT);
    private static final Set<Class<?>> STATIC_TYPES = Set.of(
        int.class, long.class, boolean.class, char.class, String.class,
        int[].class, long[].class, byte[].class, char[].class);

    public static void main(String[] args) {
        Class<?> face = SteamBends.class;
        Check.holds("the class is public and final",
                Modifier.isPublic(face.getModifiers()) && Modifier.isFinal(face.getModifiers()));
        methods(face);
        Constructor<?>[] constructors = face.getDeclaredConstructors();
        Check.holds("one public constructor without parameters", constructors.length == 1
                && Modifier.isPublic(constructors[0].getModifiers()) && constructors[0].getParameterCount() == 0);
        for (Field field : face.getDeclaredFields()) {
            Check.holds(field + " is private, or NONE",
                    Modifier.isPrivate(field.getModifiers()) || field.getName().equals("NONE"));
        }
        staticFields(face);
        for (Class<?> inside : face.getDeclaredClasses()) {
            Check.holds(inside + " is static", Modifier.isStatic(inside.getModifiers()));
            Check.holds(inside + " is not public", !Modifier.isPublic(inside.getModifiers()));
            staticFields(inside);
        }
        Check.end();
    }

    private static void methods(Class<?> face) {
        Set<String> found = new TreeSet<>();
        for (Method method : face.getDeclaredMethods()) {
            if (Modifier.isPrivate(method.getModifiers())) {
                Check.holds(method + " bears a public name", FACE.stream()
                        .noneMatch(line -> line.contains(" " + method.getName() + "(")));
            } else {
                Check.holds(method + " is public, and of the object",
                        Modifier.isPublic(method.getModifiers()) && !Modifier.isStatic(method.getModifiers()));
                found.add(told(method));
            }
        }
        Check.holds("the methods are " + found, found.equals(new TreeSet<>(FACE)));
    }

    private static String told(Method method) {
        String parameters = names(method.getParameterTypes(), ", ");
        String thrown = names(method.getExceptionTypes(), " ");
        return (method.getReturnType() + " " + method.getName() + "(" + parameters + ") " + thrown).trim();
    }

    private static String names(Class<?>[] types, String between) {
        return Stream.of(types).map(Class::getSimpleName).collect(Collectors.joining(between));
    }

    private static void staticFields(Class<?> type) {
        for (Field field : type.getDeclaredFields()) {
            if (Modifier.isStatic(field.getModifiers())) {
                Check.holds(field + " is final", Modifier.isFinal(field.getModifiers()));
                Check.holds(field + " is of a type that rule 5 lists", STATIC_TYPES.contains(field.getType()));
            }
        }
    }
}
