import java.lang.reflect.Method;
import java.nio.charset.StandardCharsets;
import java.nio.file.Files;
import java.nio.file.Paths;
import java.util.regex.Matcher;
import java.util.regex.Pattern;

/** Runs the examples of README.md: each call there answers what stands behind it. */
public final class ReadmeTest {
    private static final Pattern CALL = Pattern.compile("x\\.(\\w+)\\((.*?)\\);(?:\\s+// (-?\\d+).*)?");
    private static final Pattern TOLD = Pattern.compile("Due\\.tell\\(x, \"(.*)\"\\);\\s+// (-?\\d+).*");
    private static AngleNet x;

    private ReadmeTest() {
    }

    public static void main(String[] args) throws Exception {
        boolean inside = false;
        for (String line : Files.readAllLines(Paths.get("README.md"), StandardCharsets.UTF_8)) {
            if (line.startsWith("```")) {
                inside = line.equals("```java");
            } else if (inside && !line.startsWith("//")) {
                Due.about("README.md: " + line);
                run(line);
            }
        }
        Due.holds("README.md has examples", Due.seen() > 20);
        Due.end();
    }

    private static void run(String line) throws Exception {
        Matcher call = CALL.matcher(line);
        Matcher told = TOLD.matcher(line);
        if (line.equals("AngleNet x = new AngleNet();")) {
            x = new AngleNet();
        } else if (told.matches()) {
            Due.is("it", Due.tell(x, told.group(1)), Long.parseLong(told.group(2)));
        } else if (call.matches()) {
            long got = answer(call.group(1), call.group(2).isEmpty() ? new String[0] : call.group(2).split(", "));
            if (call.group(3) != null) {
                Due.is("it", got, Long.parseLong(call.group(3)));
            }
        } else {
            Due.holds("a line that can be run", false);
        }
    }

    private static long answer(String name, String[] numbers) throws Exception {
        for (Method method : AngleNet.class.getMethods()) {
            Class<?>[] types = method.getParameterTypes();
            if (method.getName().equals(name) && types.length == numbers.length) {
                Object[] given = new Object[types.length];
                for (int i = 0; i < types.length; i++) {
                    long number = Long.decode(numbers[i]);
                    if (types[i] == long.class) {
                        given[i] = number;
                    } else {
                        given[i] = (int) number;
                    }
                }
                return ((Number) method.invoke(x, given)).longValue();
            }
        }
        Due.holds("the face has " + name, false);
        return 0;
    }
}
