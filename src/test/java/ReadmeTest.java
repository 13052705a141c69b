import java.io.IOException;
import java.lang.reflect.InvocationTargetException;
import java.lang.reflect.Method;
import java.lang.reflect.Modifier;
import java.nio.file.Files;
import java.nio.file.Path;
import java.util.List;
import java.util.regex.Matcher;
import java.util.regex.Pattern;

/** The README's example answers what it says, and its table has every call. */
public final class ReadmeTest {
    private static final Pattern MADE = Pattern.compile("ByteShapes shapes = new ByteShapes\\((.*)\\);");
    private static final Pattern CALL = Pattern.compile("shapes\\.(\\w+)\\((.*)\\); *// (.*)");
    private static final Pattern ANSWER = Pattern.compile("(-?\\d+|true|false|throws \\w+)\\b.*");

    private static ByteShapes shapes;

    public static void main(String[] args) throws IOException {
        List<String> lines = Files.readAllLines(Path.of("README.md"));
        example(lines.subList(lines.indexOf("```java") + 1, lines.size()));
        table(lines);
        Check.done();
    }

    private static void example(List<String> lines) {
        int calls = 0;
        for (String line : lines.subList(0, lines.indexOf("```"))) {
            Matcher made = MADE.matcher(line);
            Matcher call = CALL.matcher(line);
            if (made.matches()) {
                Object[] given = numbers(made.group(1));
                shapes = new ByteShapes((Integer) given[0], (Integer) given[1], (Integer) given[2]);
            } else if (call.matches()) {
                calls++;
                String got = answer(call.group(1), numbers(call.group(2)));
                Check.isTrue(line + " (it answers " + got + ")", told(call.group(3)).equals(got));
            } else {
                Check.isTrue("neither a call nor a comment: " + line, line.isEmpty() || line.startsWith("//"));
            }
        }
        Check.isTrue("there are calls", calls > 0);
    }

    private static String answer(String name, Object[] given) {
        for (Method method : ByteShapes.class.getDeclaredMethods()) {
            if (method.getName().equals(name) && method.getParameterCount() == given.length) {
                return call(method, given);
            }
        }
        return "no such call";
    }

    private static String call(Method method, Object[] given) {
        try {
            return String.valueOf(method.invoke(shapes, given));
        } catch (InvocationTargetException e) {
            return "throws " + e.getCause().getClass().getSimpleName();
        } catch (IllegalAccessException e) {
            return e.toString();
        }
    }

    private static String told(String comment) {
        Matcher answer = ANSWER.matcher(comment);
        return answer.matches() ? answer.group(1) : "no answer is told";
    }

    private static Object[] numbers(String given) {
        if (given.isEmpty()) {
            return new Object[0];
        }
        String[] texts = given.split(", ");
        Object[] numbers = new Object[texts.length];
        for (int i = 0; i < texts.length; i++) {
            numbers[i] = Long.decode(texts[i]).intValue();
        }
        return numbers;
    }

    private static void table(List<String> lines) {
        for (Method method : ByteShapes.class.getDeclaredMethods()) {
            if (Modifier.isPublic(method.getModifiers())) {
                Check.equal("rows of the table for " + method.getName(), 1,
                    lines.stream().filter(line -> isRowOf(method, line)).count());
            }
        }
    }

    /** A row names the call, and every exception of it. */
    private static boolean isRowOf(Method method, String line) {
        boolean named = line.startsWith("| `" + method.getName() + "(");
        for (Class<?> thrown : method.getExceptionTypes()) {
            named &= line.contains("`" + thrown.getSimpleName() + "`");
        }
        return named;
    }
}
