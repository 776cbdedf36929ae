import java.lang.reflect.Constructor;
import java.lang.reflect.Field;
import java.lang.reflect.Method;
import java.lang.reflect.Modifier;
import java.util.Set;
import java.util.TreeSet;

/** The public face: exactly what the document gives, and no other member that can be seen. */
public final class FaceTest {
    private static final Due due = new Due();

    public static void main(String[] args) {
        Class<?> face = ControlText.class;
        due.is("the class", Modifier.toString(face.getModifiers()), "public final");
        due.is("what it extends", face.getSuperclass().getName(), "java.lang.Object");
        due.is("what it implements", face.getInterfaces().length, 0);
        due.is("constructors", constructors(face).toString(), "[public ControlText()]");
        due.is("fields", fields(face).toString(), "[public static final int NONE]");
        due.is("methods", methods(face).toString(), "[public int back(), public int byteAt(int), "
            + "public int change(int, int), public int clear(), public int count(int), public int end(int), "
            + "public int feed(int, int, int, int, int), public int nameByte(int, int), public int node(int, int), "
            + "public int read(), public int write()]");
        classesInside(face);
        due.is("NONE", ControlText.NONE, -1);
        due.end();
    }

    private static boolean isSeen(int modifiers, boolean synthetic) {
        return !Modifier.isPrivate(modifiers) && !synthetic;
    }

    private static Set<String> constructors(Class<?> face) {
        Set<String> all = new TreeSet<>();
        for (Constructor<?> one : face.getDeclaredConstructors()) {
            if (isSeen(one.getModifiers(), one.isSynthetic())) {
                all.add(one.toString());
            }
        }
        return all;
    }

    private static Set<String> fields(Class<?> face) {
        Set<String> all = new TreeSet<>();
        for (Field one : face.getDeclaredFields()) {
            if (isSeen(one.getModifiers(), one.isSynthetic())) {
                all.add(one.toString().replace("ControlText.", ""));
            }
        }
        return all;
    }

    private static Set<String> methods(Class<?> face) {
        Set<String> all = new TreeSet<>();
        for (Method one : face.getDeclaredMethods()) {
            if (isSeen(one.getModifiers(), one.isSynthetic())) {
                all.add(one.toString().replace("ControlText.", "").replace(",", ", "));
            }
        }
        return all;
    }

    /** Static, not public, and without a private method that bears the name of a public one of the face. */
    private static void classesInside(Class<?> face) {
        Set<String> names = new TreeSet<>();
        for (Method one : face.getMethods()) {
            names.add(one.getName());
        }
        for (Class<?> inside : face.getDeclaredClasses()) {
            int modifiers = inside.getModifiers();
            due.is(inside + " is static", Modifier.isStatic(modifiers) ? 1 : 0, 1);
            due.is(inside + " is public", Modifier.isPublic(modifiers) || Modifier.isProtected(modifiers) ? 1 : 0, 0);
            for (Method one : inside.getDeclaredMethods()) {
                due.is(one + " bears a public name", names.contains(one.getName()) ? 1 : 0, 0);
            }
        }
    }
}
