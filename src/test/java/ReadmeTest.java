import java.io.IOException;
import java.lang.reflect.InvocationTargetException;
import java.lang.reflect.Method;
import java.nio.file.Files;
import java.nio.file.Path;
import java.util.regex.Matcher;
import java.util.regex.Pattern;

/** Does the calls of README.md's examples: each answers, or throws, what stands behind it. */
public final class ReadmeTest {
    private static final Path README = Path.of("README.md");
    private static final String NEW = "ChairStamps office = new ChairStamps();";
    private static final Pattern TEXT =
        Pattern.compile("for \\(char c : \"(\\w+)\"\\.toCharArray\\(\\)\\) \\{ office\\.append\\(c\\); }");
    private static final Pattern CALL =
        Pattern.compile("office\\.(\\w+)\\(([-\\d, ]*)\\); +// (-?\\d+|\\w+Exception): .+");
    private static final int FEWEST_CALLS = 10;

    private static final Check CHECK = new Check();

    public static void main(String[] args) throws IOException, ReflectiveOperationException {
        ChairStamps office = new ChairStamps();
        boolean inExample = false;
        int calls = 0;
        for (String line : Files.readAllLines(README)) {
            Matcher text = TEXT.matcher(line);
            Matcher call = CALL.matcher(line);
            if (line.startsWith("```")) {
                inExample = line.equals("```java");
            } else if (!inExample) {
                continue;
            } else if (line.equals(NEW)) {
                office = new ChairStamps();
            } else if (text.matches()) {
                Check.write(office, text.group(1));
            } else if (call.matches()) {
                calls++;
                CHECK.same(line + "\nanswers", answer(office, call.group(1), call.group(2)), call.group(3));
            } else {
                CHECK.fault("no call with its answer: " + line);
            }
        }
        CHECK.same("the examples have calls", calls >= FEWEST_CALLS ? 1 : 0, 1);
        CHECK.end();
    }

    private static String answer(ChairStamps office, String name, String list) throws ReflectiveOperationException {
        String[] numbers = list.isEmpty() ? new String[0] : list.split(", ");
        Method method = method(name, numbers.length);
        if (method == null) {
            return "no such call";
        }
        Object[] arguments = new Object[numbers.length];
        for (int i = 0; i < numbers.length; i++) {
            boolean isLong = method.getParameterTypes()[i] == long.class;
            arguments[i] = isLong ? (Object) Long.valueOf(numbers[i]) : Integer.valueOf(numbers[i]);
        }
        try {
            return method.invoke(office, arguments).toString();
        } catch (InvocationTargetException e) {
            return e.getCause().getClass().getSimpleName();
        }
    }

    private static Method method(String name, int parameters) {
        for (Method method : ChairStamps.class.getMethods()) {
            if (method.getName().equals(name) && method.getParameterCount() == parameters) {
                return method;
            }
        }
        return null;
    }
}
