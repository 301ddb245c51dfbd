import java.io.IOException;
import java.lang.reflect.InvocationTargetException;
import java.lang.reflect.Method;
import java.lang.reflect.Modifier;
import java.nio.charset.StandardCharsets;
import java.nio.file.DirectoryStream;
import java.nio.file.Files;
import java.nio.file.Path;
import java.util.HashMap;
import java.util.List;
import java.util.Map;
import java.util.regex.Matcher;
import java.util.regex.Pattern;

/** README.md's example answers what it says, and the page names every call and every test. */
public final class ReadmeTest {
    private static final Due due = new Due();
    private static final Path README = Path.of("README.md");
    private static final Path TESTS = Path.of("src", "test", "java");
    private static final String MAKES = "OneGlove x = new OneGlove();";
    private static final Pattern CALL = Pattern.compile("x\\.(\\w+)\\(([-0-9, ]*)\\); +// (-?\\d+):.*");
    private static final Pattern FEEDS = Pattern.compile("for \\(char c : \"([^\"]*)\"\\.toCharArray\\(\\)\\) \\{");

    private ReadmeTest() {
    }

    public static void main(String[] args) throws IOException, ReflectiveOperationException {
        List<String> lines = Files.readAllLines(README, StandardCharsets.US_ASCII);
        Map<String, Method> calls = calls();
        boolean inside = false;
        OneGlove x = null;
        for (String line : lines) {
            if (line.startsWith("```")) {
                inside = line.equals("```java");
            } else if (inside && line.equals(MAKES)) {
                x = new OneGlove();
            } else if (inside) {
                due.holds("README.md, an object is made ahead of: " + line, x != null);
                read(x, calls, line);
            }
        }
        due.holds("README.md has an example", x != null);
        names(String.join("\n", lines), calls);
        due.end("ReadmeTest");
    }

    private static Map<String, Method> calls() {
        Map<String, Method> calls = new HashMap<>();
        for (Method method : OneGlove.class.getDeclaredMethods()) {
            if (Modifier.isPublic(method.getModifiers())) {
                calls.put(method.getName(), method);
            }
        }
        return calls;
    }

    private static void read(OneGlove x, Map<String, Method> calls, String line)
            throws IllegalAccessException, InvocationTargetException {
        Matcher call = CALL.matcher(line);
        Matcher feeds = FEEDS.matcher(line);
        if (call.matches()) {
            Method method = calls.get(call.group(1));
            Object[] numbers = numbers(call.group(2));
            boolean fits = method != null && method.getParameterCount() == numbers.length;
            due.holds("README.md, there is such a call: " + line, fits);
            if (fits) {
                Number answer = (Number) method.invoke(x, numbers);
                due.is("README.md: " + line, Long.parseLong(call.group(3)), answer.longValue());
            }
        } else if (feeds.matches()) {
            for (char c : feeds.group(1).toCharArray()) {
                x.feed(c);
            }
        } else {
            due.holds("README.md, a line of the example that can be read: " + line,
                    line.isBlank() || line.equals("    x.feed(c);") || line.equals("}"));
        }
    }

    private static Object[] numbers(String words) {
        if (words.isBlank()) {
            return new Object[0];
        }
        String[] each = words.split(", ");
        Object[] numbers = new Object[each.length];
        for (int i = 0; i < each.length; i++) {
            numbers[i] = Integer.valueOf(each[i]);
        }
        return numbers;
    }

    private static void names(String page, Map<String, Method> calls) throws IOException {
        for (String name : calls.keySet()) {
            due.holds("README.md names " + name + "()", page.contains("`" + name + "("));
        }
        try (DirectoryStream<Path> files = Files.newDirectoryStream(TESTS, "*Test.java")) {
            for (Path file : files) {
                String name = file.getFileName().toString().replace(".java", "");
                due.holds("README.md names " + name, page.contains(name) || name.endsWith("EdgesTest"));
            }
        }
    }
}
