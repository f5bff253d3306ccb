import java.io.IOException;
import java.lang.reflect.Method;
import java.lang.reflect.Modifier;
import java.nio.file.Files;
import java.nio.file.Path;
import java.util.Set;
import java.util.TreeSet;
import java.util.regex.Matcher;
import java.util.regex.Pattern;

/** The calls that README.md shows answer what README.md tells beside them; each method is shown. */
public final class ReadmeTest extends FramingTest {
    private static final Pattern CALL = Pattern.compile(
            "x\\.(\\w+)\\(([^()]*)\\);\\s*// (true|false|NONE|-?\\d+)(: .*)?");
    private static final String NEW_OBJECT = "FramingTrio x = new FramingTrio();";

    private static final Set<String> SHOWN = new TreeSet<>();
    private static CountedTrio x = null;

    public static void main(String[] args) throws IOException, ReflectiveOperationException {
        boolean inJava = false;
        int number = 0;
        for (String line : Files.readAllLines(Path.of("README.md"))) {
            number++;
            about("README.md, line " + number + ":");
            if (line.startsWith("```")) {
                inJava = line.equals("```java");
                x = null;
            } else if (inJava) {
                oneLine(line.strip());
            }
        }
        about("README.md");
        due("shows each method: " + SHOWN, SHOWN.equals(methodNames()), true);
        finish();
    }

    private static void oneLine(String line) throws ReflectiveOperationException {
        Matcher call = CALL.matcher(line);
        if (line.equals(NEW_OBJECT)) {
            x = new CountedTrio();
        } else if (x != null && call.matches()) {
            String want = call.group(3).equals("NONE") ? String.valueOf(FramingTrio.NONE) : call.group(3);
            due(line, answer(call.group(1), call.group(2)), want);
            SHOWN.add(call.group(1));
        } else {
            due("is a call with its answer: " + line, false, true);
        }
    }

    private static String answer(String name, String arguments) throws ReflectiveOperationException {
        String[] words = arguments.isEmpty() ? new String[0] : arguments.split(", ");
        Class<?>[] types = new Class<?>[words.length];
        Object[] values = new Object[words.length];
        for (int i = 0; i < words.length; i++) {
            types[i] = int.class;
            values[i] = Long.decode(words[i]).intValue();
        }
        return String.valueOf(CountedTrio.class.getDeclaredMethod(name, types).invoke(x, values));
    }

    private static Set<String> methodNames() {
        Set<String> names = new TreeSet<>();
        for (Method method : FramingTrio.class.getDeclaredMethods()) {
            if (Modifier.isPublic(method.getModifiers())) {
                names.add(method.getName());
            }
        }
        return names;
    }
}
