import java.io.IOException;
import java.lang.reflect.Method;
import java.lang.reflect.Modifier;
import java.nio.file.Files;
import java.nio.file.Path;
import java.util.Arrays;
import java.util.regex.Matcher;
import java.util.regex.Pattern;

/** README.md says how to use the class: its calls are made, and must answer what it says. */
public final class ReadmeTest {
    /** A call, and behind it the first word of what is said of it. */
    private static final Pattern CALL = Pattern.compile("desk\\.(\\w+)\\((.*?)\\); +// (-?\\w+)");

    private ReadmeTest() {
    }

    public static void main(String[] args) throws IOException, ReflectiveOperationException {
        String text = Files.readString(Path.of(args[0], "README.md"));
        exampleHolds(text);
        faceIsTold(text);
        Check.due("README.md says how the tests are run", true, text.contains(".ci/run"));
        Check.end();
    }

    private static void exampleHolds(String text) throws ReflectiveOperationException {
        int start = text.indexOf("```java");
        String example = text.substring(start, text.indexOf("```", start + 3));
        PathDesk desk = new PathDesk();
        int calls = 0;
        Matcher matcher = CALL.matcher(example);
        while (matcher.find()) {
            calls++;
            Object answer = make(desk, matcher.group(1), matcher.group(2).split(", "));
            if (answer != null) {
                Check.due(matcher.group(), matcher.group(3), answer.toString());
            }
        }
        long told = example.lines().filter(line -> line.startsWith("desk.")).count();
        Check.due("every call is made", true, told == calls);
        Check.due("there is an example", true, calls > 0);
    }

    private static void faceIsTold(String text) {
        for (Method method : PathDesk.class.getDeclaredMethods()) {
            if (Modifier.isPublic(method.getModifiers())) {
                String name = method.getName();
                Check.due(name + " is in the table", true, text.contains("| `" + name + "("));
                Check.due(name + " is in the example", true, text.contains("desk." + name + "("));
            }
        }
    }

    private static Object make(PathDesk desk, String name, String[] words) throws ReflectiveOperationException {
        Method method = Arrays.stream(PathDesk.class.getDeclaredMethods())
                .filter(one -> one.getName().equals(name)).findFirst().orElseThrow();
        Object[] values = new Object[words.length];
        for (int i = 0; i < words.length; i++) {
            values[i] = value(method.getParameterTypes()[i], words[i]);
        }
        return method.invoke(desk, values);
    }

    private static Object value(Class<?> type, String word) {
        if (type == boolean.class) {
            return Boolean.valueOf(word);
        }
        if (type == long.class) {
            return Long.decode(word.replace("L", ""));
        }
        return Integer.decode(word);
    }
}
