import java.io.IOException;
import java.lang.reflect.Method;
import java.nio.file.Files;
import java.nio.file.Path;
import java.util.regex.Matcher;
import java.util.regex.Pattern;

/** The calls that README.md shows answer what it says of them. */
public final class ReadmeTest {
    private static final Pattern CALL =
            Pattern.compile("x\\.(\\w+)\\(([-\\d, ]*)\\);(?: *// (-?\\w+):.*)?");
    private static final int FEWEST_CALLS = 20;

    private ReadmeTest() {
    }

    public static void main(String[] args) throws IOException {
        LampValley x = new LampValley();
        int calls = 0;
        for (String line : Files.readAllLines(Path.of("README.md"))) {
            Matcher call = CALL.matcher(line);
            if (call.matches()) {
                calls++;
                String due = call.group(3) == null ? "null" : call.group(3);
                Check.same(line, make(x, call.group(1), call.group(2)), due);
            }
        }
        Check.same("README.md shows its calls", calls >= FEWEST_CALLS, true);
        Check.finish("ReadmeTest");
    }

    private static String make(LampValley x, String name, String numbers) {
        String[] parts = numbers.isBlank() ? new String[0] : numbers.split(", *");
        Object[] arguments = new Object[parts.length];
        Class<?>[] types = new Class<?>[parts.length];
        for (int i = 0; i < parts.length; i++) {
            arguments[i] = Integer.valueOf(parts[i]);
            types[i] = int.class;
        }
        try {
            Method method = LampValley.class.getMethod(name, types);
            return String.valueOf(method.invoke(x, arguments));
        } catch (ReflectiveOperationException e) {
            return e.toString();
        }
    }
}
