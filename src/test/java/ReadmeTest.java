import java.io.IOException;
import java.lang.reflect.InvocationTargetException;
import java.lang.reflect.Method;
import java.lang.reflect.Modifier;
import java.nio.file.Files;
import java.nio.file.Path;
import java.util.Arrays;
import java.util.List;
import java.util.regex.Matcher;
import java.util.regex.Pattern;

/** README.md names every call, and its example answers as its comments say. */
public final class ReadmeTest {
    private static final String MADE = "FloodGrid plain = new FloodGrid();";
    private static final Pattern CALL = Pattern.compile("plain\\.(\\w+)\\(([-\\d, ]*)\\);\\s+// ([^ :]+): .+");

    public static void main(String[] args) throws IOException {
        List<String> lines = Files.readAllLines(Path.of("README.md"));
        namesEveryCall(String.join("\n", lines));
        int start = lines.indexOf("```java");
        if (start < 0) {
            Check.fail("README.md has no example");
        } else {
            List<String> behind = lines.subList(start + 1, lines.size());
            example(behind.subList(0, behind.indexOf("```")));
        }
        Check.end();
    }

    private static void namesEveryCall(String readme) {
        for (Method method : FloodGrid.class.getDeclaredMethods()) {
            if (Modifier.isPublic(method.getModifiers()) && !readme.contains("| `" + method.getName() + "(")) {
                Check.fail("README.md has no row for " + method.getName());
            }
        }
    }

    private static void example(List<String> lines) {
        Check.same("the example begins with a new object", 0, lines.indexOf(MADE));
        FloodGrid plain = new FloodGrid();
        for (String line : lines.subList(1, lines.size())) {
            Matcher call = CALL.matcher(line);
            if (!call.matches()) {
                Check.fail("no call with its answer: " + line);
            } else {
                String got = answer(plain, call.group(1), numbers(call.group(2)));
                if (!got.equals(call.group(3))) {
                    Check.fail(line + " answered " + got);
                }
            }
        }
    }

    private static Object[] numbers(String told) {
        if (told.isEmpty()) {
            return new Object[0];
        }
        return Arrays.stream(told.split(", ")).map(Integer::valueOf).toArray();
    }

    /** The answer, or the name of the exception that the call throws, in words. */
    private static String answer(FloodGrid plain, String name, Object[] numbers) {
        Class<?>[] takes = new Class<?>[numbers.length];
        Arrays.fill(takes, int.class);
        try {
            return String.valueOf(FloodGrid.class.getMethod(name, takes).invoke(plain, numbers));
        } catch (InvocationTargetException e) {
            return e.getCause().getClass().getSimpleName();
        } catch (ReflectiveOperationException e) {
            return "no such call";
        }
    }
}
