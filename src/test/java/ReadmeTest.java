import java.io.IOException;
import java.lang.reflect.InvocationTargetException;
import java.lang.reflect.Method;
import java.nio.file.Files;
import java.nio.file.Path;
import java.util.regex.Matcher;
import java.util.regex.Pattern;

/** README.md's example: makes each call that stands there and compares the answer told beside. */
public final class ReadmeTest {
    private static final Check CHECK = new Check("ReadmeTest");
    private static final Pattern CALL =
            Pattern.compile("log\\.(\\w+)\\(([^)]*)\\); +// (-?\\d+)(:.*)?");

    public static void main(String[] args) throws IOException, IllegalAccessException {
        String readme = Files.readString(Path.of("README.md"));
        everyLineIsAsTold(readme);
        everyCallIsNamed(readme);
        CHECK.end();
    }

    private static void everyLineIsAsTold(String readme) throws IllegalAccessException {
        FindLog log = new FindLog();
        String example = readme.substring(readme.indexOf("```java\n"));
        example = example.substring(0, example.indexOf("\n```\n"));
        int calls = 0;
        for (String line : example.split("\n")) {
            if (line.startsWith("log.")) {
                makeCall(log, line);
                calls++;
            }
        }
        CHECK.same("the example has calls", calls > 0 ? 1 : 0, 1);
    }

    private static void makeCall(FindLog log, String line) throws IllegalAccessException {
        Matcher call = CALL.matcher(line);
        if (!call.matches()) {
            CHECK.tell(line, "no call", "a call and its answer");
            return;
        }
        Object[] arguments = numbers(call.group(2));
        Method method = methodOf(call.group(1));
        if (method == null || method.getParameterCount() != arguments.length) {
            CHECK.tell(line, "no such method", call.group(3));
            return;
        }
        try {
            Number answer = (Number) method.invoke(log, arguments);
            CHECK.same(line, answer.longValue(), Long.parseLong(call.group(3)));
        } catch (InvocationTargetException e) {
            CHECK.tell(line, "throws " + e.getCause(), call.group(3));
        }
    }

    private static Object[] numbers(String text) {
        if (text.isEmpty()) {
            return new Object[0];
        }
        String[] words = text.split(", ");
        Object[] numbers = new Object[words.length];
        for (int i = 0; i < words.length; i++) {
            numbers[i] = words[i].equals("FindLog.NONE") ? FindLog.NONE : Integer.parseInt(words[i]);
        }
        return numbers;
    }

    private static Method methodOf(String name) {
        for (Method method : FindLog.class.getMethods()) {
            if (method.getDeclaringClass() == FindLog.class && method.getName().equals(name)) {
                return method;
            }
        }
        return null;
    }

    private static void everyCallIsNamed(String readme) {
        for (Method method : FindLog.class.getMethods()) {
            if (method.getDeclaringClass() == FindLog.class) {
                boolean named = readme.contains("`" + method.getName() + "(");
                CHECK.same("README.md names " + method.getName(), named ? 1 : 0, 1);
            }
        }
    }
}
