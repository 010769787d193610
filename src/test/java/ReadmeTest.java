import java.io.IOException;
import java.lang.reflect.InvocationTargetException;
import java.lang.reflect.Method;
import java.lang.reflect.Modifier;
import java.nio.file.Files;
import java.nio.file.Path;
import java.util.Arrays;
import java.util.HashMap;
import java.util.Map;
import java.util.Set;
import java.util.TreeSet;
import java.util.regex.Matcher;
import java.util.regex.Pattern;

/** The calls that README.md shows are made as they stand there, and must answer what it says. */
public final class ReadmeTest {
    private static final String NEW_OBJECT = "UnitStates x = new UnitStates();";
    private static final Pattern CALL = Pattern.compile(
            "(?:int (\\w+) = )?x\\.(\\w+)\\(([\\w, ]*)\\); +// (-?\\d+|throws \\w+)(?:: .+)?");

    private final Check check = new Check();
    private final Map<String, Integer> named = new HashMap<>();
    private final Set<String> shown = new TreeSet<>();
    private UnitStates x;

    public static void main(String[] args) throws IOException {
        new ReadmeTest().run(Files.readString(Path.of("README.md")));
    }

    private void run(String readme) {
        boolean inside = false;
        for (String line : readme.lines().toArray(String[]::new)) {
            if (line.startsWith("```")) {
                inside = line.equals("```java");
            } else if (inside && !line.isBlank()) {
                take(line);
            }
        }
        Set<String> face = face();
        if (!shown.equals(face)) {
            check.complain("README.md shows the calls " + shown + ", the face has " + face);
        }
        check.end();
    }

    private void take(String line) {
        if (line.equals(NEW_OBJECT)) {
            x = new UnitStates();
            return;
        }
        Matcher call = CALL.matcher(line);
        if (x == null || !call.matches()) {
            check.complain("README.md shows no call with its answer: " + line);
            return;
        }
        shown.add(call.group(2));
        String got = answer(call.group(2), numbers(call.group(3)));
        if (!got.equals(call.group(4))) {
            check.complain("README.md: " + line + " answered " + got);
        } else if (call.group(1) != null) {
            named.put(call.group(1), Integer.valueOf(got));
        }
    }

    private Object[] numbers(String list) {
        return Arrays.stream(list.split(", "))
                .map(text -> named.containsKey(text) ? named.get(text) : Integer.valueOf(text))
                .toArray();
    }

    private String answer(String name, Object[] numbers) {
        Class<?>[] types = new Class<?>[numbers.length];
        Arrays.fill(types, int.class);
        try {
            return UnitStates.class.getMethod(name, types).invoke(x, numbers).toString();
        } catch (InvocationTargetException e) {
            return "throws " + e.getCause().getClass().getSimpleName();
        } catch (ReflectiveOperationException e) {
            return "nothing, there is no such call";
        }
    }

    private static Set<String> face() {
        Set<String> names = new TreeSet<>();
        for (Method method : UnitStates.class.getDeclaredMethods()) {
            if (Modifier.isPublic(method.getModifiers())) {
                names.add(method.getName());
            }
        }
        return names;
    }
}
