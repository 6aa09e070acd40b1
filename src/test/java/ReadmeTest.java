import java.io.IOException;
import java.lang.reflect.Method;
import java.nio.file.Files;
import java.nio.file.Path;
import java.util.regex.Matcher;
import java.util.regex.Pattern;

/** README.md: its examples, read from the page, answer as their comments say. It is looked for where the test is run. */
public final class ReadmeTest {
    private static final Pattern BLOCK = Pattern.compile("(?s)```java\n(.*?)```");
    private static final Pattern CALL = Pattern.compile("x\\.(\\w+)\\(([-\\d, ]*)\\);\\s+// (-?\\d+): .+");
    private static final Pattern TEXT =
            Pattern.compile("for \\(char sign : \"([^\"]*)\"\\.toCharArray\\(\\)\\) x\\.feed\\(sign\\);");

    private static LastAtPump x = null;
    private static int calls = 0;

    public static void main(String[] args) throws IOException, ReflectiveOperationException {
        Due.words("README.md");
        Matcher block = BLOCK.matcher(Files.readString(Path.of("README.md")));
        while (block.find()) {
            for (String line : block.group(1).split("\n")) {
                line(line);
            }
        }
        Due.is("the page's calls were seen", calls > 40 ? 1 : 0, 1);
        Due.is("one object is used for 512 calls at most", calls <= 512 ? 1 : 0, 1);
        Due.end();
    }

    private static void line(String line) throws ReflectiveOperationException {
        Matcher call = CALL.matcher(line);
        Matcher text = TEXT.matcher(line);
        if (line.equals("LastAtPump x = new LastAtPump();")) {
            x = new LastAtPump();
        } else if (text.matches()) {
            for (char sign : text.group(1).toCharArray()) {
                x.feed(sign);
                calls++;
            }
        } else if (call.matches()) {
            Due.is(line.trim(), answer(call.group(1), call.group(2)), Long.parseLong(call.group(3)));
            calls++;
        } else {
            Due.is("a line that can't be read: " + line, 0, 1);
        }
    }

    private static long answer(String name, String told) throws ReflectiveOperationException {
        String[] numbers = told.isEmpty() ? new String[0] : told.split(", ");
        for (Method method : LastAtPump.class.getMethods()) {
            Class<?>[] types = method.getParameterTypes();
            if (!method.getName().equals(name) || types.length != numbers.length) {
                continue;
            }
            Object[] given = new Object[numbers.length];
            for (int k = 0; k < given.length; k++) {
                given[k] = types[k] == long.class ? (Object) Long.valueOf(numbers[k]) : Integer.valueOf(numbers[k]);
            }
            return ((Number) method.invoke(x, given)).longValue();
        }
        throw new NoSuchMethodException(name + " of " + numbers.length);
    }
}
