import java.io.IOException;
import java.lang.reflect.InvocationTargetException;
import java.lang.reflect.Method;
import java.lang.reflect.Modifier;
import java.nio.file.Files;
import java.nio.file.Path;
import java.util.Set;
import java.util.TreeSet;
import java.util.regex.Matcher;
import java.util.regex.Pattern;

/** The example in README.md: each call of it answers what stands behind it, and none is left out. */
public final class ReadmeTest {
    private static final Pattern EXAMPLE = Pattern.compile("(?s)```java\n(.*?)```");
    private static final Pattern CALL = Pattern.compile("office\\.(\\w+)\\((.*)\\); +// (\\w+|-\\d+)(: .*)?");
    private static final String MADE = "RoadOffice office = new RoadOffice();";

    public static void main(String[] args) throws IOException, IllegalAccessException {
        String text = Files.readString(Path.of("README.md"));
        Matcher example = EXAMPLE.matcher(text);
        if (example.find()) {
            play(example.group(1).split("\n"));
        } else {
            Desk.fail("README.md has no example");
        }
        Desk.due("README.md says how the tests are run", text.contains("\n    .ci/run\n"), true);
        Desk.leave();
    }

    private static void play(String[] lines) throws IllegalAccessException {
        RoadOffice office = new RoadOffice();
        Set<String> lacking = new TreeSet<>();
        for (Method m : RoadOffice.class.getDeclaredMethods()) {
            if (Modifier.isPublic(m.getModifiers())) {
                lacking.add(m.getName());
            }
        }
        Desk.due("the example begins with a new object", lines[0].equals(MADE), true);
        for (int i = 1; i < lines.length; i++) {
            Matcher call = CALL.matcher(lines[i]);
            if (call.matches()) {
                String got = answer(office, call.group(1), call.group(2).split(", "));
                Desk.due(lines[i] + " (" + got + ")", got.equals(call.group(3)), true);
                lacking.remove(call.group(1));
            } else {
                Desk.fail("README.md tells no answer: " + lines[i]);
            }
        }
        Desk.due("the example lacks " + lacking, lacking.isEmpty(), true);
    }

    private static String answer(RoadOffice office, String name, String[] words) throws IllegalAccessException {
        for (Method m : RoadOffice.class.getMethods()) {
            if (m.getName().equals(name)) {
                Object[] values = new Object[m.getParameterCount()];
                for (int i = 0; i < values.length; i++) {
                    values[i] = value(words[i], m.getParameterTypes()[i]);
                }
                try {
                    return String.valueOf(m.invoke(office, values));
                } catch (InvocationTargetException e) {
                    return e.getCause().getClass().getSimpleName();
                }
            }
        }
        return "no such call";
    }

    private static Object value(String word, Class<?> type) {
        if (type == boolean.class) {
            return Boolean.valueOf(word);
        }
        return word.equals("RoadOffice.NONE") ? Integer.valueOf(RoadOffice.NONE) : Integer.decode(word);
    }
}
