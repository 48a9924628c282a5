import java.io.IOException;
import java.lang.reflect.Method;
import java.nio.charset.StandardCharsets;
import java.nio.file.Files;
import java.nio.file.Path;
import java.util.regex.Matcher;
import java.util.regex.Pattern;

/** The example of README.md answers what its comments say, and the page names every call. */
public final class ReadmeTest {
    private static final Path PAGE = Path.of("README.md");
    private static final Pattern CALL = Pattern.compile("(?m)^ {4}clerk\\.(\\w+)\\((.*)\\); +// (\\w+):");
    private static final int LEAST_CALLS = 10;

    public static void main(String[] args) throws ReflectiveOperationException, IOException {
        String page = Files.readString(PAGE, StandardCharsets.ISO_8859_1);
        PegClerks clerk = new PegClerks();
        Matcher call = CALL.matcher(page);
        int calls = 0;
        while (call.find()) {
            calls++;
            Checks.due(call.group().strip(), answer(clerk, call.group(1), call.group(2)), number(call.group(3)));
        }
        Checks.due("too few calls are read from " + PAGE, calls < LEAST_CALLS ? 1 : 0, 0);
        for (Method method : PegClerks.class.getMethods()) {
            if (method.getDeclaringClass() == PegClerks.class) {
                Checks.due(PAGE + " names " + method.getName(), page.contains("`" + method.getName() + "`") ? 1 : 0, 1);
            }
        }
        Checks.end();
    }

    private static long answer(PegClerks clerk, String name, String told) throws ReflectiveOperationException {
        String[] words = told.isEmpty() ? new String[0] : told.split(", ");
        for (Method method : PegClerks.class.getMethods()) {
            if (method.getName().equals(name) && method.getParameterCount() == words.length) {
                Object[] arguments = new Object[words.length];
                for (int i = 0; i < words.length; i++) {
                    long number = number(words[i]);
                    // Two conversions, as ?: would make a long of both.
                    if (method.getParameterTypes()[i] == long.class) {
                        arguments[i] = number;
                    } else {
                        arguments[i] = (int) number;
                    }
                }
                return (Integer) method.invoke(clerk, arguments);
            }
        }
        throw new NoSuchMethodException(name);
    }

    private static long number(String word) throws ReflectiveOperationException {
        if (word.matches("-?\\d.*")) {
            return Long.decode(word.endsWith("L") ? word.substring(0, word.length() - 1) : word);
        }
        return PegClerks.class.getField(word.replace("PegClerks.", "")).getInt(null);
    }
}
