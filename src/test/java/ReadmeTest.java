import java.io.IOException;
import java.lang.reflect.Method;
import java.lang.reflect.Modifier;
import java.nio.file.Files;
import java.nio.file.Path;
import java.util.List;
import java.util.regex.Matcher;
import java.util.regex.Pattern;
import java.util.stream.Stream;

/** README.md: its example answers as it says there, and it names each call and each test. */
public final class ReadmeTest {
    private static final Checks C = new Checks("ReadmeTest");
    private static final Pattern CALL = Pattern.compile("x\\.(\\w+)\\(([^)]*)\\);\\s*// (-?\\d+)(:.*)?");
    private static final String FIRST_LINE = "LandTaken x = new LandTaken();";

    public static void main(String[] args) throws IOException, ReflectiveOperationException {
        String readme = Files.readString(Path.of("README.md"));
        example(readme);
        namesEachCall(readme);
        namesEachTest(readme);
        C.end();
    }

    private static void example(String readme) throws ReflectiveOperationException {
        int start = readme.indexOf(FIRST_LINE);
        int end = readme.indexOf("```", Math.max(0, start));
        C.holds("there is an example", start >= 0 && end > start);
        if (start < 0 || end < start) {
            return;
        }
        List<String> lines = readme.substring(start + FIRST_LINE.length(), end).strip().lines().toList();
        LandTaken x = new LandTaken();
        for (String line : lines) {
            Matcher call = CALL.matcher(line);
            boolean isCall = call.matches();
            C.holds("a call with its answer: " + line, isCall);
            if (isCall) {
                C.due(line, answer(x, call.group(1), call.group(2)), Long.parseLong(call.group(3)));
            }
        }
        C.holds("an example of several calls", lines.size() > 20);
    }

    private static long answer(LandTaken x, String name, String args) throws ReflectiveOperationException {
        Method method = Stream.of(LandTaken.class.getMethods()).filter(m -> m.getName().equals(name)).findFirst()
                .orElseThrow();
        String[] words = args.isEmpty() ? new String[0] : args.split(", ");
        Class<?>[] types = method.getParameterTypes();
        Object[] values = new Object[words.length];
        for (int i = 0; i < words.length; i++) {
            values[i] = i < types.length ? value(types[i], words[i]) : words[i];
        }
        return ((Number) method.invoke(x, values)).longValue();
    }

    private static Object value(Class<?> type, String word) {
        if (type == boolean.class) {
            return Boolean.valueOf(word);
        }
        if (type == long.class) {
            return Long.valueOf(word);
        }
        return Integer.valueOf(word);
    }

    private static void namesEachCall(String readme) {
        for (Method method : LandTaken.class.getDeclaredMethods()) {
            if (Modifier.isPublic(method.getModifiers())) {
                C.holds("README names " + method.getName(), readme.contains("`" + method.getName() + "`"));
            }
        }
        for (String word : new String[] {"UNKNOWN", "OUTSIDE", "STATE", "FULL"}) {
            C.holds("README names " + word, readme.contains("`" + word + "`"));
        }
    }

    private static void namesEachTest(String readme) throws IOException {
        try (Stream<Path> files = Files.list(Path.of("src/test/java"))) {
            for (Path file : files.toList()) {
                String name = file.getFileName().toString().replace(".java", "");
                C.holds("README names " + name, Pattern.compile("\\b" + name + "\\b").matcher(readme).find());
            }
        }
        C.holds("README says how to run the tests", readme.contains("`.ci/run`"));
    }
}
