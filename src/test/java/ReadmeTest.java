import java.io.IOException;
import java.lang.reflect.InvocationTargetException;
import java.lang.reflect.Method;
import java.nio.file.Files;
import java.nio.file.Path;
import java.util.regex.Matcher;
import java.util.regex.Pattern;

/** The calls that README.md shows, made in its order on one object, must answer what it says behind them. */
public final class ReadmeTest {
    private static final String MAKING = "TwoTownAlmanac almanac = new TwoTownAlmanac();";
    private static final Pattern CALL =
            Pattern.compile("almanac\\.(\\w+)\\(([^)]*)\\);\\s+// (throws \\w+|true|false|-?\\d+)(:.*)?");

    private static TwoTownAlmanac almanac = null;
    private static int calls = 0;

    public static void main(String[] args) throws IOException {
        boolean inExample = false;
        for (String line : Files.readAllLines(Path.of("README.md"))) {
            if (line.startsWith("```")) {
                inExample = line.equals("```java");
            } else if (inExample && !line.isBlank() && !line.startsWith("//")) {
                runLine(line);
            }
        }
        Check.due(1, "README.md has an example", calls > 0, true);
        Check.due(1, "README.md's object is used for at most 512 calls", calls <= 512, true);
        Check.end("ReadmeTest");
    }

    private static void runLine(String line) {
        Matcher call = CALL.matcher(line);
        if (line.startsWith(MAKING)) {
            almanac = new TwoTownAlmanac();
        } else if (almanac != null && call.matches()) {
            calls++;
            Check.same(promiseOf(call.group(1)), "README.md: " + line, answerOf(call), call.group(3));
        } else {
            Check.same(1, "README.md: a line that is no call with its answer", line, MAKING);
        }
    }

    /** The document's face names the methods in the order of their promises, the first one after the constructor. */
    private static int promiseOf(String name) {
        for (int i = 0; i < FaceTest.FACE.length; i++) {
            if (FaceTest.FACE[i].contains(" " + name + "(")) {
                return i + 2;
            }
        }
        return 1;
    }

    private static String answerOf(Matcher call) {
        String[] written = call.group(2).isEmpty() ? new String[0] : call.group(2).split(", ");
        try {
            for (Method method : TwoTownAlmanac.class.getMethods()) {
                if (method.getName().equals(call.group(1)) && method.getParameterCount() == written.length) {
                    return String.valueOf(method.invoke(almanac, argumentsOf(method, written)));
                }
            }
            return "no such method";
        } catch (InvocationTargetException e) {
            return "throws " + e.getCause().getClass().getSimpleName();
        } catch (IllegalAccessException e) {
            return e.toString();
        }
    }

    private static Object[] argumentsOf(Method method, String[] written) {
        Object[] arguments = new Object[written.length];
        for (int i = 0; i < written.length; i++) {
            boolean isLong = method.getParameterTypes()[i] == long.class;
            String number = written[i].replace("L", "");
            arguments[i] = isLong ? (Object) Long.decode(number) : (Object) Integer.decode(number);
        }
        return arguments;
    }
}
