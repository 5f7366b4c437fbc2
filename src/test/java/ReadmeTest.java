import java.lang.reflect.Method;
import java.nio.file.Files;
import java.nio.file.Path;
import java.util.regex.Matcher;
import java.util.regex.Pattern;

/** The calls of README.md's example, with the answers that stand behind them. */
public final class ReadmeTest {
    private static final Pattern CALL = Pattern.compile("turner\\.(\\w+)\\((.*?)\\); +// (-?\\d+)\\b.*");

    private static Object argument(Class<?> type, String text) {
        return type == boolean.class ? (Object) Boolean.valueOf(text) : (Object) Integer.decode(text);
    }

    private static long answer(PageTurner turner, String name, String[] texts) throws ReflectiveOperationException {
        for (Method method : PageTurner.class.getMethods()) {
            Class<?>[] types = method.getParameterTypes();
            if (method.getName().equals(name) && types.length == texts.length) {
                Object[] arguments = new Object[texts.length];
                for (int i = 0; i < texts.length; i++) {
                    arguments[i] = argument(types[i], texts[i]);
                }
                return ((Number) method.invoke(turner, arguments)).longValue();
            }
        }
        throw new NoSuchMethodException(name);
    }

    public static void main(String[] args) throws java.io.IOException, ReflectiveOperationException {
        PageTurner turner = new PageTurner();
        int calls = 0;
        int lines = 0;
        for (String line : Files.readAllLines(Path.of("README.md"))) {
            lines += line.startsWith("turner.") ? 1 : 0;
            Matcher call = CALL.matcher(line);
            if (call.matches()) {
                String[] texts = call.group(2).isEmpty() ? new String[0] : call.group(2).split(", ");
                Check.same(line, answer(turner, call.group(1), texts), Long.parseLong(call.group(3)));
                calls++;
            }
        }
        Check.same("every call of the example has its answer", calls, lines);
        Check.same("there is an example", calls > 0 ? 1 : 0, 1);
        Check.finish();
    }
}
