import java.io.File;
import java.io.IOException;
import java.lang.reflect.InvocationTargetException;
import java.lang.reflect.Method;
import java.lang.reflect.Modifier;
import java.nio.file.Files;
import java.nio.file.Path;
import java.util.HashMap;
import java.util.Map;
import java.util.regex.Matcher;
import java.util.regex.Pattern;

/** README.md tells the class as it stands: every call, the ERRORS, the tests, and an example that answers as it says. */
public final class ReadmeTest {
    private static final Pattern STEP = Pattern.compile("(?:int (\\w+) = )?city\\.(\\w+)\\(([^)]*)\\);\\s*// (-?\\d+): .*");
    private static final Map<String, Method> FACE = new HashMap<>();

    public static void main(String[] args) throws IOException, IllegalAccessException, InvocationTargetException {
        for (Method m : GlassEyes.class.getDeclaredMethods()) {
            if (Modifier.isPublic(m.getModifiers())) {
                FACE.put(m.getName(), m);
            }
        }
        String readme = Files.readString(Path.of("README.md"));
        calls(readme);
        errors(readme);
        tests(readme);
        example(readme);
        Due.end("ReadmeTest");
    }

    private static void calls(String readme) {
        for (Method m : FACE.values()) {
            String comma = m.getParameterCount() < 2 ? "" : "(, \\w+){" + (m.getParameterCount() - 1) + "}";
            String in = m.getParameterCount() == 0 ? "" : "\\w+" + comma;
            Pattern row = Pattern.compile("(?m)^\\| `" + m.getName() + "\\(" + in + "\\)` \\| [^|]+ \\| [^|]*\\|$");
            Due.due("rows for " + m.getName(), row.matcher(readme).results().count(), 1);
        }
    }

    private static void errors(String readme) {
        String[] names = {"BEYOND", "NONE", "STATE", "FULL", "KIND"};
        for (int k = 1; k <= names.length; k++) {
            String row = "| " + names[k - 1] + " | " + (Due.LOW - k) + " | " + k + " | ";
            Due.due("a row for " + names[k - 1], readme.contains(row) ? 1 : 0, 1);
        }
    }

    private static void tests(String readme) {
        for (String file : new File("src/test/java").list()) {
            if (file.endsWith("Test.java")) {
                String row = "| " + file.substring(0, file.length() - ".java".length()) + " | ";
                Due.due("a row for " + file, readme.contains(row) ? 1 : 0, 1);
            }
        }
        Due.due("the command that runs the tests", readme.contains("```sh\nbash .ci/run\n```") ? 1 : 0, 1);
        Due.due(".ci/run is executable", Files.isExecutable(Path.of(".ci/run")) ? 1 : 0, 1);
    }

    private static void example(String readme) throws IllegalAccessException, InvocationTargetException {
        String began = "```java\nGlassEyes city = new GlassEyes();\n";
        int from = readme.indexOf(began);
        Due.due("an example stands there", from >= 0 ? 1 : 0, 1);
        if (from < 0) {
            return;
        }
        String code = readme.substring(from + began.length(), readme.indexOf("```", from + began.length()));
        GlassEyes city = new GlassEyes();
        Map<String, Integer> names = new HashMap<>();
        for (String line : code.split("\n")) {
            Matcher step = STEP.matcher(line);
            boolean read = step.matches();
            Due.due("a step of the example: " + line, read ? 1 : 0, 1);
            if (read) {
                Method m = FACE.get(step.group(2));
                int got = (int) m.invoke(city, arguments(m, step.group(3), names));
                Due.due(line, got, Integer.parseInt(step.group(4)));
                names.put(step.group(1), got);
            }
        }
    }

    private static Object[] arguments(Method m, String written, Map<String, Integer> names) {
        Object[] in = new Object[m.getParameterCount()];
        String[] parts = written.split(", ");
        for (int i = 0; i < in.length; i++) {
            String part = parts[i];
            if (names.containsKey(part)) {
                in[i] = names.get(part);
            } else if (m.getParameterTypes()[i] == long.class) {
                in[i] = Long.decode(part.replace("L", ""));
            } else {
                in[i] = Integer.decode(part);
            }
        }
        return in;
    }
}
