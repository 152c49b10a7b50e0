import java.io.IOException;
import java.lang.reflect.InvocationTargetException;
import java.lang.reflect.Method;
import java.nio.file.Files;
import java.nio.file.Path;
import java.util.regex.Matcher;
import java.util.regex.Pattern;

/** The calls that README.md shows, each with the answer it tells: so that none is told that is not so. */
public final class ReadmeTest {
    private static final Pattern CALL = Pattern.compile("x\\.(\\w+)\\((.*?)\\); *// (-?\\d+|ArithmeticException)(:.*)?");

    public static void main(String[] args) throws IOException, ReflectiveOperationException {
        FusionRules x = null;
        int calls = 0;
        for (String line : Files.readAllLines(Path.of("README.md"))) {
            if (line.startsWith("FusionRules x = new FusionRules();")) {
                x = new FusionRules();
            } else if (line.startsWith("x.")) {
                calls++;
                compare(line, x);
            }
        }
        Check.due("README.md shows calls", 1, calls > 10 ? 1 : 0);
        Check.end();
    }

    private static void compare(String line, FusionRules x) throws ReflectiveOperationException {
        Matcher call = CALL.matcher(line);
        boolean isCall = x != null && call.matches();
        Check.due("<" + line + "> is a call with its answer", 1, isCall ? 1 : 0);
        if (isCall) {
            String got = answerOf(x, call.group(1), call.group(2));
            Check.due("<" + line + "> answered " + got + ": as told", 1, got.equals(call.group(3)) ? 1 : 0);
        }
    }

    private static String answerOf(FusionRules x, String name, String numbers) throws ReflectiveOperationException {
        String[] texts = numbers.isEmpty() ? new String[0] : numbers.split(", *");
        Method method = methodOf(name);
        Object[] given = new Object[texts.length];
        for (int i = 0; i < given.length; i++) {
            boolean isLong = method.getParameterTypes()[i] == long.class;
            given[i] = isLong ? (Object) Long.valueOf(texts[i]) : (Object) Integer.valueOf(texts[i]);
        }
        try {
            return method.invoke(x, given).toString();
        } catch (InvocationTargetException thrown) {
            return thrown.getCause().getClass().getSimpleName();
        }
    }

    private static Method methodOf(String name) {
        for (Method method : FusionRules.class.getMethods()) {
            if (method.getName().equals(name)) {
                return method;
            }
        }
        throw new IllegalArgumentException(name);
    }
}
