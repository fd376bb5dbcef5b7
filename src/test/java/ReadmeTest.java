import java.io.IOException;
import java.lang.reflect.InvocationTargetException;
import java.lang.reflect.Method;
import java.lang.reflect.Modifier;
import java.nio.file.Files;
import java.nio.file.Path;
import java.util.regex.Matcher;
import java.util.regex.Pattern;

/** README.md's example answers as its comments say, and its table names every call there is. */
final class ReadmeTest {
    private static final Check CHECK = new Check("ReadmeTest");
    private static final Pattern TEXT = Pattern.compile("String text = \"([^\"]*)\";");
    private static final Pattern FEEDING = Pattern.compile("for \\(char sign : text.*pond\\.feed\\(sign, 1\\);");
    private static final Pattern CALL = Pattern.compile("pond\\.(\\w+)\\(([^)]*)\\); +// (-?\\d+): .+");

    private static Method named(String name) {
        for (Method method : IceBears.class.getDeclaredMethods()) {
            if (method.getName().equals(name) && Modifier.isPublic(method.getModifiers())) return method;
        }
        return null;
    }

    private static Object valueOf(Class<?> type, String word) {
        if (type == boolean.class) return Boolean.valueOf(word);
        if (type == long.class) return Long.valueOf(word);
        return Integer.valueOf(word);
    }

    private static long answer(IceBears pond, Method method, String words)
            throws IllegalAccessException, InvocationTargetException {
        Class<?>[] types = method.getParameterTypes();
        String[] parts = words.split(", ");
        Object[] values = new Object[types.length];
        for (int i = 0; i < types.length; i++) values[i] = valueOf(types[i], parts[i]);
        return ((Number) method.invoke(pond, values)).longValue();
    }

    private static void theExampleAnswersAsItSays(String readme) throws ReflectiveOperationException {
        String example = readme.split("```java\n")[1].split("```")[0];
        IceBears pond = new IceBears();
        int calls = 0;
        String text = "";
        for (String line : example.split("\n")) {
            Matcher telling = TEXT.matcher(line);
            Matcher call = CALL.matcher(line);
            if (telling.matches()) {
                text = telling.group(1);
            } else if (FEEDING.matcher(line).matches()) {
                for (char sign : text.toCharArray()) pond.feed(sign, 1);
            } else if (call.matches()) {
                Method method = named(call.group(1));
                CHECK.due(line + " is a call", method == null ? 0 : 1, 1);
                if (method != null) CHECK.due(line, answer(pond, method, call.group(2)), Long.parseLong(call.group(3)));
                calls++;
            } else {
                boolean isMaking = line.isEmpty() || line.startsWith("IceBears pond = new IceBears();");
                CHECK.due("\"" + line + "\" is read", isMaking ? 1 : 0, 1);
            }
        }
        CHECK.due("calls in the example", calls > 20 ? 1 : 0, 1);
    }

    private static void theTableNamesEveryCall(String readme) {
        StringBuilder table = new StringBuilder();
        for (String line : readme.split("\n")) {
            if (line.startsWith("| `")) table.append(line.split("\\|")[1]);
        }
        for (Method method : IceBears.class.getDeclaredMethods()) {
            if (!Modifier.isPublic(method.getModifiers())) continue;
            boolean isNamed = table.indexOf("`" + method.getName() + "`") >= 0;
            CHECK.due("README.md names " + method.getName(), isNamed ? 1 : 0, 1);
        }
    }

    public static void main(String[] args) throws IOException, ReflectiveOperationException {
        String readme = Files.readString(Path.of("README.md"));
        theExampleAnswersAsItSays(readme);
        theTableNamesEveryCall(readme);
        CHECK.end();
    }
}
