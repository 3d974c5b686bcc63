import java.lang.reflect.Constructor;
import java.lang.reflect.Executable;
import java.lang.reflect.Field;
import java.lang.reflect.Method;
import java.lang.reflect.Modifier;
import java.util.Arrays;
import java.util.Set;
import java.util.TreeSet;

/** The class has the document's face, and nothing else of it can be seen from outside. */
public final class FaceTest {
    private static final String[] FACE = {
        "int feed(int, int, int, int, int)",
        "boolean end(int)",
        "boolean road(int, int, int, int)",
        "int count(int, int)",
        "int counts(int, int)",
        "int later()",
        "int works(int, int, int, boolean)",
        "int seen(int, int, int)",
        "int kind(int, int, int, int)",
        "int whole(int, int)",
        "int posts(int, int)",
        "int worth(int, int, int) throws NoSuchElementException",
        "int sample(int, int)",
        "int fit(int, int, int)",
        "long year(int, int, int) throws NoSuchElementException",
        "long trial(int, int, int) throws NoSuchElementException",
        "int flow(int, int)",
        "int missing(int, int) throws NoSuchElementException",
        "long agreed(int, int, int) throws NoSuchElementException",
        "int told(int)",
    };

    public static void main(String[] args) {
        Class<RoadOffice> face = RoadOffice.class;
        Desk.due("public and final", face.getModifiers(), Modifier.PUBLIC | Modifier.FINAL);
        Desk.due("no package", face.getPackageName().isEmpty(), true);
        methods(face);
        fields(face);
        for (Constructor<?> c : face.getDeclaredConstructors()) {
            Desk.due(c.toString(), Modifier.isPublic(c.getModifiers()) && c.getParameterCount() == 0, true);
        }
        for (Class<?> inside : face.getDeclaredClasses()) {
            int modifiers = inside.getModifiers();
            boolean seen = Modifier.isPublic(modifiers) || Modifier.isProtected(modifiers);
            Desk.due(inside + " is static and not public", Modifier.isStatic(modifiers) && !seen, true);
            Desk.due(inside + " has at most 20 fields", inside.getDeclaredFields().length <= 20, true);
        }
        Desk.leave();
    }

    private static void methods(Class<?> face) {
        Set<String> due = new TreeSet<>(Arrays.asList(FACE));
        Set<String> names = new TreeSet<>();
        for (Method m : face.getDeclaredMethods()) {
            if (Modifier.isPublic(m.getModifiers())) {
                names.add(m.getName());
                Desk.due(told(m) + " stands in the document", due.remove(told(m)), true);
                Desk.due(told(m) + " is not static", Modifier.isStatic(m.getModifiers()), false);
            }
        }
        Desk.due("lacking: " + due, due.size(), 0);
        for (Method m : face.getDeclaredMethods()) {
            if (!Modifier.isPublic(m.getModifiers()) && !m.isSynthetic()) {
                Desk.due(m + " is private", Modifier.isPrivate(m.getModifiers()), true);
                Desk.due(m + " bears a name of its own", names.contains(m.getName()), false);
            }
        }
    }

    private static void fields(Class<?> face) {
        for (Field f : face.getDeclaredFields()) {
            if (f.getName().equals("NONE")) {
                Desk.due("NONE", f.getModifiers(), Modifier.PUBLIC | Modifier.STATIC | Modifier.FINAL);
            } else {
                Desk.due(f + " is private", Modifier.isPrivate(f.getModifiers()), true);
                Desk.due(f + " is final, if static",
                        Modifier.isStatic(f.getModifiers()) && !Modifier.isFinal(f.getModifiers()), false);
            }
        }
    }

    private static String told(Method m) {
        StringBuilder text = new StringBuilder(m.getReturnType().getSimpleName());
        text.append(' ').append(m.getName()).append('(').append(types(m, false)).append(')');
        String thrown = types(m, true);
        return thrown.isEmpty() ? text.toString() : text.append(" throws ").append(thrown).toString();
    }

    private static String types(Executable m, boolean thrown) {
        StringBuilder text = new StringBuilder();
        for (Class<?> type : thrown ? m.getExceptionTypes() : m.getParameterTypes()) {
            text.append(text.length() > 0 ? ", " : "").append(type.getSimpleName());
        }
        return text.toString();
    }
}
