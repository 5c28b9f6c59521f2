import java.io.IOException;
import java.lang.reflect.InvocationTargetException;
import java.lang.reflect.Method;
import java.lang.reflect.Modifier;
import java.nio.file.Files;
import java.nio.file.Path;
import java.util.HashSet;
import java.util.List;
import java.util.Set;
import java.util.regex.Matcher;
import java.util.regex.Pattern;

/** Makes the calls that README.md shows, and asks for what it says behind them. */
public final class ReadmeTest {
    private static final Checks CHECKS = new Checks();
    private static final Pattern CALL = Pattern.compile("x\\.(\\w+)\\((.*)\\); +// (throws \\w+|'.'|-?\\d+)(?:[:,].*)?");

    private ReadmeTest() {
    }

    public static void main(String[] args) throws IOException {
        List<String> lines = Files.readAllLines(Path.of("README.md"));
        ShippedClass x = new ShippedClass();
        Set<String> shown = new HashSet<>();
        for (String line : lines) {
            Matcher call = CALL.matcher(line);
            if (call.matches()) {
                shown.add(call.group(1));
                boolean isRight = answer(x, call.group(1), call.group(2)).equals(call.group(3));
                CHECKS.due(line + " is right", isRight ? 1 : 0, 1);
            } else {
                CHECKS.due(line + " can be read", line.startsWith("x.") ? 0 : 1, 1);
            }
        }
        for (Method method : ShippedClass.class.getDeclaredMethods()) {
            boolean isFace = Modifier.isPublic(method.getModifiers());
            CHECKS.due(method.getName() + " is shown", !isFace || shown.contains(method.getName()) ? 1 : 0, 1);
        }
        CHECKS.end();
    }

    private static String answer(ShippedClass x, String name, String numbers) {
        for (Method method : ShippedClass.class.getDeclaredMethods()) {
            if (method.getName().equals(name)) {
                return answer(x, method, numbers.isEmpty() ? new String[0] : numbers.split(", "));
            }
        }
        return "no such call";
    }

    private static String answer(ShippedClass x, Method method, String[] numbers) {
        Object[] values = new Object[numbers.length];
        for (int i = 0; i < numbers.length; i++) {
            boolean isTruth = method.getParameterTypes()[i] == boolean.class;
            values[i] = isTruth ? (Object) numbers[i].equals("true") : (Object) Long.decode(numbers[i]).intValue();
        }
        try {
            Object answer = method.invoke(x, values);
            return answer instanceof Character ? "'" + answer + "'" : answer.toString();
        } catch (InvocationTargetException e) {
            return "throws " + e.getCause().getClass().getSimpleName();
        } catch (IllegalAccessException e) {
            return "no call of the face";
        }
    }
}
