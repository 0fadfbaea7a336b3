import java.lang.reflect.Constructor;
import java.lang.reflect.Field;
import java.lang.reflect.Method;
import java.lang.reflect.Modifier;
import java.util.Arrays;
import java.util.Set;
import java.util.TreeSet;
import java.util.stream.Collectors;

/** The public face is the document's and no more (LANGUAGE.md, rules 1, 5 and 11). */
public final class FaceTest {
    private static final Check CHECK = new Check("FaceTest");
    private static final int HIDDEN = Modifier.PRIVATE;
    private static final String[] FACE = {
        "int sink(int, int, int, int) IllegalArgumentException, UnsupportedOperationException",
        "void cut(int) IllegalArgumentException",
        "void source(int, int) IllegalArgumentException",
        "void wires(int, int) IllegalArgumentException",
        "void buffer(int, int, int) IllegalArgumentException",
        "int sinks() ",
        "int build(int) IllegalArgumentException, NoSuchElementException",
        "int node(int, int) IllegalStateException, IndexOutOfBoundsException",
        "int length() IllegalStateException",
        "int depth(int) IllegalStateException, IndexOutOfBoundsException",
        "boolean set(int, boolean) IllegalStateException, IndexOutOfBoundsException",
        "int setting() IllegalStateException",
        "long load(int, boolean) IllegalStateException, IndexOutOfBoundsException",
        "long delay(int) IllegalStateException, IndexOutOfBoundsException",
        "long slack() IllegalStateException",
        "long best() IllegalStateException",
        "int improve() IllegalStateException",
    };

    public static void main(String[] args) {
        Class<?> face = EvenClock.class;
        CHECK.that("the class is public and final",
                Modifier.isPublic(face.getModifiers()) && Modifier.isFinal(face.getModifiers()));
        constructors(face);
        methods(face);
        fields(face);
        for (Class<?> inside : face.getDeclaredClasses()) {
            CHECK.that(inside + " is static", Modifier.isStatic(inside.getModifiers()));
            CHECK.that(inside + " is not of the face", !Modifier.isPublic(inside.getModifiers())
                    && !Modifier.isProtected(inside.getModifiers()));
            fields(inside);
        }
        CHECK.end();
    }

    private static void constructors(Class<?> face) {
        Constructor<?>[] all = face.getDeclaredConstructors();
        CHECK.same("constructors", 1, all.length);
        CHECK.that("the constructor is public and takes nothing",
                Modifier.isPublic(all[0].getModifiers()) && all[0].getParameterCount() == 0);
        CHECK.same("exceptions of the constructor", 0, all[0].getExceptionTypes().length);
    }

    private static void methods(Class<?> face) {
        Set<String> due = new TreeSet<>(Arrays.asList(FACE));
        Set<String> open = new TreeSet<>();
        Set<String> openNames = new TreeSet<>();
        for (Method method : face.getDeclaredMethods()) {
            if ((method.getModifiers() & HIDDEN) == 0) {
                open.add(told(method));
                CHECK.that(method + " is called on an object",
                        !Modifier.isStatic(method.getModifiers()));
                openNames.add(method.getName());
            }
        }
        CHECK.same("methods", 17, open.size());
        CHECK.that("the face is " + open + ", due is " + due, open.equals(due));
        for (Method method : face.getDeclaredMethods()) {
            boolean hidden = (method.getModifiers() & HIDDEN) != 0;
            CHECK.that(method + " bears the name of a public one",
                    !hidden || !openNames.contains(method.getName()));
        }
    }

    private static String told(Method method) {
        return method.getReturnType().getSimpleName() + " " + method.getName()
                + "(" + names(method.getParameterTypes()) + ") "
                + names(method.getExceptionTypes());
    }

    private static String names(Class<?>[] types) {
        return Arrays.stream(types).map(Class::getSimpleName).collect(Collectors.joining(", "));
    }

    private static void fields(Class<?> owner) {
        int own = 0;
        for (Field field : owner.getDeclaredFields()) {
            boolean shared = Modifier.isStatic(field.getModifiers());
            CHECK.that(field + " is static but not final",
                    !shared || Modifier.isFinal(field.getModifiers()));
            CHECK.that(field + " is visible from outside", owner != EvenClock.class
                    || (field.getModifiers() & HIDDEN) != 0);
            own += shared ? 0 : 1;
        }
        CHECK.that(owner + " has " + own + " fields", own <= 20);
    }
}
