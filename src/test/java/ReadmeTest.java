import java.io.IOException;
import java.lang.reflect.Method;
import java.nio.file.Files;
import java.nio.file.Path;
import java.util.regex.Matcher;
import java.util.regex.Pattern;

/** README.md shows calls with their answers: made one after the other, they answer so, and README.md names each method. */
public final class ReadmeTest {
    private static final Pattern CALL = Pattern.compile("form\\.(\\w+)\\(([^)]*)\\); +// (\\S+): .*");

    private ReadmeTest() { }

    public static void main(String[] args) throws IOException, ReflectiveOperationException {
        Due due = new Due();
        due.about("README.md");
        String page = Files.readString(Path.of("README.md"));
        CarbonSheets form = new CarbonSheets();
        int calls = 0;
        for (String line : page.split("\n")) {
            Matcher shown = CALL.matcher(line);
            if (shown.matches()) {
                calls++;
                due.is(line, answer(form, shown.group(1), shown.group(2)), number(shown.group(3)));
            } else if (line.startsWith("form.")) {
                due.fails("'" + line + "' does not tell its answer");
            }
        }
        due.is("the calls that it shows", Math.min(calls, 1), 1);
        for (Method method : CarbonSheets.class.getMethods()) {
            if (method.getDeclaringClass() == CarbonSheets.class && !page.contains("`" + method.getName() + "`")) {
                due.fails(method.getName() + " is not named");
            }
        }
        due.end();
    }

    private static int answer(CarbonSheets form, String name, String written) throws ReflectiveOperationException {
        String[] parts = written.isEmpty() ? new String[0] : written.split(", *");
        for (Method method : CarbonSheets.class.getMethods()) {
            if (method.getName().equals(name) && method.getParameterCount() == parts.length) {
                return (int) method.invoke(form, arguments(method, parts));
            }
        }
        throw new NoSuchMethodException(name + " with " + parts.length + " arguments");
    }

    private static Object[] arguments(Method method, String[] parts) {
        Object[] arguments = new Object[parts.length];
        for (int i = 0; i < parts.length; i++) {
            boolean isLong = method.getParameterTypes()[i] == long.class;
            arguments[i] = isLong ? (Object) Long.decode(parts[i].replace("L", "")) : (Object) Integer.decode(parts[i]);
        }
        return arguments;
    }

    /** Reads a number, or a constant of the class by its name. */
    private static int number(String written) throws ReflectiveOperationException {
        return written.matches("-?\\d+") ? Integer.parseInt(written) : CarbonSheets.class.getField(written).getInt(null);
    }
}
