import java.lang.reflect.Method;
import java.nio.file.Files;
import java.nio.file.Path;
import java.util.Map;
import java.util.regex.Matcher;
import java.util.regex.Pattern;

/** Makes the calls of README.md's example: each line tells its answer first in its comment. */
public final class ReadmeTest {
    private static final Pattern EXAMPLE = Pattern.compile("(?s)```java\n(.*?)```");
    private static final Pattern CALL = Pattern.compile("x\\.(\\w+)\\(([^)]*)\\);\\s+// (-?\\w+)(:.*)?");
    private static final Map<String, Integer> NAMES = Map.of("NONE", SandDots.NONE, "BAD", SandDots.BAD,
        "STATE", SandDots.STATE, "FULL", SandDots.FULL);

    private final Checks checks = new Checks();
    private SandDots x = null;

    public static void main(String[] args) throws Exception {
        ReadmeTest test = new ReadmeTest();
        Matcher example = EXAMPLE.matcher(Files.readString(Path.of(System.getProperty("readme", "README.md"))));
        test.checks.isTrue("README.md has an example", example.find());
        for (String line : example.group(1).split("\n")) {
            test.run(line);
        }
        test.checks.end();
    }

    private void run(String line) throws Exception {
        if (line.isBlank() || line.startsWith("//")) {
            return;
        }
        if (line.equals("SandDots x = new SandDots();")) {
            x = new SandDots();
            return;
        }
        Matcher call = CALL.matcher(line);
        boolean isCall = call.matches();
        checks.isTrue("a call and its answer: " + line, isCall);
        if (isCall) {
            int got = answer(call.group(1), call.group(2));
            String due = call.group(3);
            checks.due(line, got, NAMES.containsKey(due) ? NAMES.get(due) : Integer.parseInt(due));
        }
    }

    private int answer(String name, String numbers) throws Exception {
        Method method = methodOf(name);
        String[] told = numbers.isEmpty() ? new String[0] : numbers.split(", ");
        Object[] arguments = new Object[told.length];
        for (int k = 0; k < told.length; k++) {
            long number = Long.decode(told[k].replaceAll("L$", ""));
            boolean isLong = method.getParameterTypes()[k] == long.class;
            arguments[k] = isLong ? (Object) number : (Object) Math.toIntExact(number);
        }
        return (int) method.invoke(x, arguments);
    }

    private static Method methodOf(String name) {
        for (Method method : SandDots.class.getMethods()) {
            if (method.getName().equals(name)) {
                return method;
            }
        }
        throw new IllegalArgumentException("no call " + name);
    }
}
