import java.lang.reflect.Constructor;
import java.lang.reflect.Field;
import java.lang.reflect.Method;
import java.lang.reflect.Modifier;
import java.util.ArrayList;
import java.util.Arrays;
import java.util.Collections;
import java.util.List;

/** The face is the document's, and nothing beside it can be seen from outside. */
public final class FaceTest {
    private static final List<String> FACE = List.of(
            "void field(int, int, int, boolean) throws NoSuchElementException",
            "int parameter(int, int, int, boolean, int) throws NoSuchElementException, IllegalStateException",
            "void returns(int, int, boolean, int) throws NoSuchElementException",
            "int add(int, int, int, int, int) throws NoSuchElementException, IllegalArgumentException, IllegalStateException",
            "int clear(int) throws NoSuchElementException",
            "boolean good(int) throws NoSuchElementException",
            "int holds(int, int, int, int) throws NoSuchElementException, IllegalArgumentException, IllegalStateException",
            "int fields(int, int) throws NoSuchElementException, IllegalStateException",
            "void start(int) throws NoSuchElementException, IllegalStateException",
            "int run(int) throws IllegalArgumentException, IllegalStateException",
            "int state(int) throws IllegalArgumentException, IllegalStateException",
            "int local(int) throws NoSuchElementException",
            "int object(int, int) throws NoSuchElementException",
            "int count(int) throws IllegalArgumentException");

    public static void main(String[] args) {
        Class<?> c = MakerGuard.class;
        Check.due("modifiers of the class", Modifier.toString(c.getModifiers()), "public final");
        Check.due("NONE", MakerGuard.NONE, -1);
        Check.due("constructors", Arrays.toString(c.getDeclaredConstructors()), "[public MakerGuard()]");
        Check.due("methods", sorted(visibleMethods(c)), sorted(new ArrayList<>(FACE)));
        Check.due("fields", visibleFields(c).toString(), "[public static final int MakerGuard.NONE]");
        privateNamesDifferFromFace(c);
        for (Class<?> inside : c.getDeclaredClasses()) {
            int m = inside.getModifiers();
            Check.due(inside + " is hidden and static", !Modifier.isPublic(m) && !Modifier.isProtected(m) && Modifier.isStatic(m), true);
        }
        Check.finish();
    }

    private static String sorted(List<String> lines) {
        Collections.sort(lines);
        return lines.toString();
    }

    private static List<String> visibleMethods(Class<?> c) {
        List<String> found = new ArrayList<>();
        for (Method m : c.getDeclaredMethods()) {
            if (!Modifier.isPrivate(m.getModifiers())) {
                found.add(m.getReturnType() + " " + m.getName() + "(" + names(m.getParameterTypes()) + ") throws "
                        + names(m.getExceptionTypes()));
            }
        }
        return found;
    }

    private static String names(Class<?>[] types) {
        List<String> names = new ArrayList<>();
        for (Class<?> type : types) {
            names.add(type.getSimpleName());
        }
        return String.join(", ", names);
    }

    private static List<Field> visibleFields(Class<?> c) {
        List<Field> found = new ArrayList<>();
        for (Field f : c.getDeclaredFields()) {
            if (!Modifier.isPrivate(f.getModifiers())) {
                found.add(f);
            }
        }
        return found;
    }

    private static void privateNamesDifferFromFace(Class<?> c) {
        String face = FACE.toString();
        List<Class<?>> all = new ArrayList<>(Arrays.asList(c.getDeclaredClasses()));
        all.add(c);
        for (Class<?> one : all) {
            for (Method m : one.getDeclaredMethods()) {
                boolean hidden = one != c || Modifier.isPrivate(m.getModifiers());
                Check.due(m + " has a name of the face", hidden && face.contains(" " + m.getName() + "("), false);
            }
        }
        for (Constructor<?> made : c.getDeclaredConstructors()) {
            Check.due("parameters of " + made, made.getParameterCount(), 0);
        }
    }
}
