import java.lang.reflect.Method;
import java.nio.file.Files;
import java.nio.file.Path;
import java.util.Set;
import java.util.TreeSet;
import java.util.regex.Matcher;
import java.util.regex.Pattern;

/** The README's example: each call answers what stands behind it, and each method of the face is shown. */
public final class ReadmeTest {
    private static final Pattern CALL = Pattern.compile("desk\\.(\\w+)\\(([^)]*)\\); +// (-?\\d+|true|false):");

    private static Object answer(FlightDesk desk, String name, String arguments) throws Exception {
        String[] texts = arguments.isEmpty() ? new String[0] : arguments.split(", ");
        Object[] numbers = new Object[texts.length];
        Class<?>[] types = new Class<?>[texts.length];
        for (int i = 0; i < texts.length; i++) {
            numbers[i] = Integer.decode(texts[i]);
            types[i] = int.class;
        }
        return FlightDesk.class.getMethod(name, types).invoke(desk, numbers);
    }

    public static void main(String[] args) throws Exception {
        Check check = new Check();
        String readme = Files.readString(Path.of("README.md"));
        Set<String> shown = new TreeSet<>();
        FlightDesk desk = new FlightDesk();
        Matcher calls = CALL.matcher(readme);
        while (calls.find()) {
            String answered = String.valueOf(answer(desk, calls.group(1), calls.group(2)));
            check.due(calls.group() + " answered " + answered, answered.equals(calls.group(3)), true);
            shown.add(calls.group(1));
        }
        for (Method method : FlightDesk.class.getMethods()) {
            if (method.getDeclaringClass() == FlightDesk.class) {
                check.due("README shows " + method.getName(), shown.contains(method.getName()), true);
            }
        }
        check.due("README says how the tests are run", readme.contains("bash .ci/run"), true);
        check.close();
    }
}
