import java.io.IOException;
import java.lang.reflect.Method;
import java.lang.reflect.Modifier;
import java.nio.file.Files;
import java.nio.file.Path;
import java.util.HashMap;
import java.util.Map;
import java.util.Set;
import java.util.TreeSet;
import java.util.regex.Matcher;
import java.util.regex.Pattern;

/** The lines that README.md shows answer what it says, and every call of the face is among them. */
public final class ReadmeTest {
    private static final Pattern CALL = Pattern.compile("x\\.(\\w+)\\(([^)]*)\\); +// (-?\\d+|[A-Z]+)\\b.*");
    private static final Pattern TELL = Pattern.compile("tell\\(x, \"([^\"]*)\"\\);");
    private static final Map<String, Long> NAMED = Map.of("BAD", (long) MasonMarks.BAD, "NO", (long) MasonMarks.NO,
        "FULL", (long) MasonMarks.FULL, "NONE", (long) MasonMarks.NONE);

    private ReadmeTest() {
    }

    private static Map<String, Method> face() {
        Map<String, Method> face = new HashMap<>();
        for (Method method : MasonMarks.class.getDeclaredMethods()) {
            if (Modifier.isPublic(method.getModifiers())) {
                face.put(method.getName(), method);
            }
        }
        return face;
    }

    private static long answer(MasonMarks x, Method method, String numbers) throws ReflectiveOperationException {
        String[] given = numbers.isEmpty() ? new String[0] : numbers.split(", ");
        Object[] arguments = new Object[given.length];
        for (int i = 0; i < given.length; i++) {
            // A cast behind decode, as a ?: of both would make every number a long.
            Object number = Long.decode(given[i].replace("L", ""));
            if (method.getParameterTypes()[i] == int.class) {
                number = ((Long) number).intValue();
            }
            arguments[i] = number;
        }
        return ((Number) method.invoke(x, arguments)).longValue();
    }

    public static void main(String[] args) throws IOException, ReflectiveOperationException {
        Map<String, Method> face = face();
        Set<String> shown = new TreeSet<>();
        MasonMarks x = new MasonMarks();
        for (String line : Files.readAllLines(Path.of("README.md"))) {
            Matcher call = CALL.matcher(line);
            Matcher tell = TELL.matcher(line);
            if (tell.matches()) {
                Due.write(x, tell.group(1));
            } else if (call.matches()) {
                String due = call.group(3);
                Due.holds("a call of the face: " + line, face.containsKey(call.group(1)));
                Due.holds("a number or a constant: " + line, NAMED.containsKey(due) || due.matches("-?\\d+"));
                long want = NAMED.containsKey(due) ? NAMED.get(due) : Long.parseLong(due);
                Due.is(line, answer(x, face.get(call.group(1)), call.group(2)), want);
                shown.add(call.group(1));
            } else {
                Due.holds("a line that is not run: " + line, !line.startsWith("x.") && !line.startsWith("tell("));
            }
        }
        Due.is("how many calls are shown: " + shown, shown.size(), face.size());
        Due.end();
    }
}
