import java.io.IOException;
import java.lang.reflect.Method;
import java.nio.file.Files;
import java.nio.file.Path;
import java.util.regex.Matcher;
import java.util.regex.Pattern;

/** What README.md shows as calls and their answers is so. Runs in the project's folder. */
public final class ReadmeTest {
    private static final Pattern CALL = Pattern.compile("x\\.(\\w+)\\(([^)]*)\\); +// (?:(-?\\d+)|Pegrow\\.([A-Z]+)).*");

    public static void main(String[] args) throws IOException, ReflectiveOperationException {
        Due due = new Due();
        due.about("README.md");
        Pegrow x = new Pegrow();
        int calls = 0;
        for (String line : Files.readAllLines(Path.of("README.md"))) {
            Matcher call = CALL.matcher(line);
            if (call.matches()) {
                due.is(line, answer(x, call.group(1), call.group(2).split(", ")), due(call.group(3), call.group(4)));
                calls++;
            } else if (line.startsWith("x.")) {
                due.is("a line that is no call with its answer", line, "");
            }
        }
        due.is("calls at all", calls > 0 ? "so" : "not so", "so");
        due.end();
    }

    private static int due(String number, String constant) throws ReflectiveOperationException {
        return number != null ? Integer.parseInt(number) : Pegrow.class.getField(constant).getInt(null);
    }

    private static int answer(Pegrow x, String name, String[] arguments) throws ReflectiveOperationException {
        for (Method method : Pegrow.class.getMethods()) {
            if (method.getName().equals(name) && method.getDeclaringClass() == Pegrow.class) {
                Class<?>[] types = method.getParameterTypes();
                Object[] values = new Object[types.length];
                for (int i = 0; i < types.length; i++) {
                    values[i] = types[i] == int.class ? (Object) Integer.valueOf(arguments[i]) : Boolean.valueOf(arguments[i]);
                }
                return (int) method.invoke(x, values);
            }
        }
        throw new NoSuchMethodException(name);
    }
}
