import java.io.IOException;
import java.lang.reflect.InvocationTargetException;
import java.lang.reflect.Method;
import java.nio.file.Files;
import java.nio.file.Path;
import java.util.Arrays;
import java.util.HashMap;
import java.util.List;
import java.util.Map;
import java.util.regex.Matcher;
import java.util.regex.Pattern;
import java.util.stream.Collectors;

/** The example of README.md: each of its calls answers what stands behind the call. */
public final class ReadmeTest {
    private static final Path README = Path.of("README.md");
    private static final Pattern MAKES =
            Pattern.compile("TreeConfigurator x = new TreeConfigurator\\(\\);( .*)?");
    private static final Pattern CALLS =
            Pattern.compile("(?:int (\\w+) = )?x\\.(\\w+)\\((.*?)\\); +// ([^ :]+)(?:: .*)?");
    private static final Pattern LINE = Pattern.compile(".* the line is \"([^\"]*)\"");

    public static void main(String[] args) throws IllegalAccessException {
        Cases.run(ReadmeTest.class);
    }

    static void readme_exampleAnswers() throws IOException, IllegalAccessException {
        Map<String, Integer> names = new HashMap<>();
        TreeConfigurator x = null;
        int calls = 0;
        for (String line : example()) {
            Matcher call = CALLS.matcher(line);
            if (MAKES.matcher(line).matches()) {
                x = new TreeConfigurator();
            } else if (call.matches()) {
                calls++;
                Object answer = answer(x, call.group(2), arguments(call.group(3), names));
                Due.answer(line, told(answer), call.group(4));
                name(names, call.group(1), answer);
                tellsLine(line, x);
            } else {
                boolean hasNoCall = line.isEmpty() || line.startsWith("//");
                Due.answer("a line without a call: " + line, hasNoCall, true);
            }
        }
        Due.answer("the example calls", calls > 0, true);
    }

    private static List<String> example() throws IOException {
        String start = "```java\n";
        String text = Files.readString(README);
        int from = text.indexOf(start) + start.length();
        return text.substring(from, text.indexOf("```", from)).lines().collect(Collectors.toList());
    }

    private static Object[] arguments(String told, Map<String, Integer> names) {
        return Arrays.stream(told.split(", "))
                .filter(argument -> !argument.isEmpty())
                .map(argument -> argument(argument, names))
                .toArray();
    }

    private static Object argument(String told, Map<String, Integer> names) {
        if (told.equals("true") || told.equals("false")) {
            return Boolean.valueOf(told);
        }
        return names.containsKey(told) ? names.get(told) : Integer.valueOf(told);
    }

    private static Object answer(TreeConfigurator x, String name, Object[] arguments)
            throws IllegalAccessException {
        try {
            return method(name).invoke(x, arguments);
        } catch (InvocationTargetException e) {
            return e.getCause().getClass().getSimpleName();
        }
    }

    private static Method method(String name) {
        return Arrays.stream(TreeConfigurator.class.getMethods())
                .filter(method -> method.getName().equals(name))
                .findFirst()
                .orElseThrow();
    }

    private static String told(Object answer) {
        return answer instanceof Character ? "'" + answer + "'" : answer.toString();
    }

    private static void tellsLine(String line, TreeConfigurator x) {
        Matcher told = LINE.matcher(line);
        if (told.matches()) {
            Due.answer(line, Probe.line(x), told.group(1));
        }
    }

    private static void name(Map<String, Integer> names, String name, Object answer) {
        if (name != null && answer instanceof Integer) {
            names.put(name, (Integer) answer);
        }
    }
}
