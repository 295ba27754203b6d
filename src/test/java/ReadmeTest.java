import java.io.IOException;
import java.lang.reflect.Method;
import java.lang.reflect.Modifier;
import java.nio.file.Files;
import java.nio.file.Path;
import java.util.regex.Matcher;
import java.util.regex.Pattern;

/** What README.md shows of the class: each call of it with a number behind it answers so. */
public final class ReadmeTest {
    private static final Pattern TEXT = Pattern.compile("feed\\(x, \"(.*)\"\\);");
    private static final Pattern CALL = Pattern.compile("x\\.(\\w+)\\(([0-9, -]*)\\);\\s+// (-?\\d+|true|false)\\b.*");

    public static void main(String[] args) throws IOException, ReflectiveOperationException {
        Checks checks = new Checks();
        FearLocks x = new FearLocks();
        int calls = 0;
        for (String line : Files.readAllLines(Path.of("README.md"))) {
            Matcher text = TEXT.matcher(line);
            Matcher call = CALL.matcher(line);
            if (text.matches()) {
                Checks.feed(x, text.group(1));
            } else if (call.matches()) {
                calls++;
                checks.due(line, answer(x, call.group(1), call.group(2)).equals(call.group(3)), true);
            } else {
                checks.due("is not read: " + line, line.startsWith("x."), false);
            }
        }
        checks.due("README.md shows how the class is used", calls >= 10, true);
        for (Method method : FearLocks.class.getDeclaredMethods()) {
            String name = method.getName();
            boolean shown = Files.readString(Path.of("README.md")).contains("`" + name + "`");
            checks.due("README.md names " + name, shown, Modifier.isPublic(method.getModifiers()));
        }
        checks.finish();
    }

    private static String answer(FearLocks x, String name, String numbers) throws ReflectiveOperationException {
        String[] parts = numbers.isEmpty() ? new String[0] : numbers.split(", ");
        Object[] values = new Object[parts.length];
        Class<?>[] types = new Class<?>[parts.length];
        for (int i = 0; i < parts.length; i++) {
            values[i] = Integer.parseInt(parts[i]);
            types[i] = int.class;
        }
        return String.valueOf(FearLocks.class.getMethod(name, types).invoke(x, values));
    }
}
