import java.io.IOException;
import java.lang.reflect.Method;
import java.nio.charset.StandardCharsets;
import java.nio.file.Files;
import java.nio.file.Path;
import java.util.Arrays;
import java.util.HashMap;
import java.util.Map;
import java.util.regex.Matcher;
import java.util.regex.Pattern;

/** Makes the calls of the example in README.md, and compares their answers with those that stand behind them. */
public final class ReadmeTest {
    private static final String BEGIN = "```java\n", END = "```", NEW = "CallBench b = new CallBench();";
    private static final Pattern CALL =
            Pattern.compile("(?:int (\\w+) = )?b\\.(\\w+)\\(([^()]*)\\); +// (-?\\d+)(?:: .+)?");
    private static final int LEAST_CALLS = 20;

    private final CallBench bench = new CallBench();
    private final Map<String, Long> named = new HashMap<>();
    private final Check check = new Check();
    private int calls;

    private ReadmeTest() {
    }

    public static void main(String[] args) throws IOException, ReflectiveOperationException {
        new ReadmeTest().run(Files.readString(Path.of("README.md"), StandardCharsets.UTF_8));
    }

    private void run(String text) throws ReflectiveOperationException {
        check.part("README.md");
        int begin = text.indexOf(BEGIN) + BEGIN.length();
        String[] lines = text.substring(begin, text.indexOf(END, begin)).split("\n");
        check.due("the first line makes a CallBench", lines[0].equals(NEW) ? 1 : 0, 1);
        for (String line : Arrays.asList(lines).subList(1, lines.length)) {
            if (!line.isBlank()) {
                compare(line);
            }
        }
        check.due("there are calls enough", calls >= LEAST_CALLS ? 1 : 0, 1);
        check.end("ReadmeTest");
    }

    private void compare(String line) throws ReflectiveOperationException {
        Matcher parts = CALL.matcher(line);
        boolean isCall = parts.matches();
        check.due("a call with its answer: " + line, isCall ? 1 : 0, 1);
        if (!isCall) {
            return;
        }
        calls++;
        long answer = answer(parts.group(2), parts.group(3));
        check.due(line, answer, Long.parseLong(parts.group(4)));
        if (parts.group(1) != null) {
            named.put(parts.group(1), answer);
        }
    }

    private long answer(String name, String list) throws ReflectiveOperationException {
        String[] texts = list.isEmpty() ? new String[0] : list.split(", ");
        Method method = method(name, texts.length);
        Object[] args = new Object[texts.length];
        for (int i = 0; i < args.length; i++) {
            args[i] = argument(method.getParameterTypes()[i], texts[i]);
        }
        return ((Number) method.invoke(bench, args)).longValue();
    }

    private static Method method(String name, int parameters) throws NoSuchMethodException {
        for (Method m : CallBench.class.getMethods()) {
            if (m.getName().equals(name) && m.getParameterCount() == parameters) {
                return m;
            }
        }
        throw new NoSuchMethodException(name);
    }

    private Object argument(Class<?> type, String text) {
        if (type == boolean.class) {
            return Boolean.valueOf(text);
        }
        long value = named.containsKey(text) ? named.get(text) : Long.parseLong(text);
        if (type == int.class) {
            return (int) value;
        }
        return value;
    }
}
