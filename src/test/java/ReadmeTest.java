import java.io.IOException;
import java.lang.reflect.Method;
import java.nio.file.Files;
import java.nio.file.Path;
import java.util.Set;
import java.util.TreeSet;
import java.util.regex.Matcher;
import java.util.regex.Pattern;

/** Makes the calls of README.md's example, and looks that README.md names each call and each test. */
public final class ReadmeTest extends Checks {
    private static final Pattern CALL = Pattern.compile("encoder\\.(\\w+)\\((.*)\\); +// (-?\\d+): .*");

    public static void main(String[] args) throws IOException, ReflectiveOperationException {
        String page = Files.readString(Path.of("README.md"));
        exampleAnswersSo(page);
        callsAreNamed(page);
        testsAreNamed(page);
        end("ReadmeTest");
    }

    private static void exampleAnswersSo(String page) throws ReflectiveOperationException {
        sentence("README.md, the example");
        StepPairs x = new StepPairs();
        int calls = 0;
        for (String line : page.split("\n")) {
            Matcher call = CALL.matcher(line);
            if (call.matches()) {
                calls++;
                due(line, answer(x, call.group(1), call.group(2)), Long.parseLong(call.group(3)));
            } else {
                due("a call that tells no answer: " + line, line.startsWith("encoder.") ? 1 : 0, 0);
            }
        }
        due("calls are found", Math.min(calls, 10), 10);
    }

    private static long answer(StepPairs x, String name, String arguments) throws ReflectiveOperationException {
        String[] written = arguments.isEmpty() ? new String[0] : arguments.split(", ");
        for (Method method : StepPairs.class.getMethods()) {
            if (method.getName().equals(name)) {
                Class<?>[] types = method.getParameterTypes();
                Object[] values = new Object[types.length];
                for (int i = 0; i < types.length; i++) {
                    long value = number(written[i]);
                    values[i] = types[i] == long.class ? (Object) value : (Object) (int) value;
                }
                return ((Number) method.invoke(x, values)).longValue();
            }
        }
        throw new NoSuchMethodException(name);
    }

    private static long number(String written) throws ReflectiveOperationException {
        if (written.startsWith("StepPairs.")) {
            return StepPairs.class.getField(written.substring(10)).getInt(null);
        }
        return Long.decode(written.replace("L", ""));
    }

    private static void callsAreNamed(String page) {
        sentence("README.md says how to use the class");
        Set<String> names = new TreeSet<>();
        for (Method method : StepPairs.class.getMethods()) {
            if (method.getDeclaringClass() == StepPairs.class) {
                names.add(method.getName());
            }
        }
        for (String name : names) {
            due(name + " is named", page.contains("`" + name + "`") ? 1 : 0, 1);
        }
    }

    private static void testsAreNamed(String page) throws IOException {
        sentence("README.md says how to run the tests");
        due("all of them", page.contains(".ci/run`") ? 1 : 0, 1);
        try (var files = Files.newDirectoryStream(Path.of("src/test/java"), "*Test.java")) {
            for (Path file : files) {
                String name = file.getFileName().toString().replace(".java", "");
                due(name + " is named", page.contains("- `" + name + "`: ") ? 1 : 0, 1);
            }
        }
    }
}
