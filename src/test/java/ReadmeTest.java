import java.io.IOException;
import java.lang.reflect.Method;
import java.nio.file.DirectoryStream;
import java.nio.file.Files;
import java.nio.file.Path;
import java.util.HashMap;
import java.util.Map;
import java.util.regex.Matcher;
import java.util.regex.Pattern;

/** The example in README.md answers what its comments say, and README.md names every call and every test. */
public final class ReadmeTest {
    private static final Path TESTS = Path.of("src/test/java");
    private static final Pattern LINE =
            Pattern.compile("(?:int (\\w+) = )?house\\.(\\w+)\\(([^)]*)\\); +// (-?\\d+): .*");
    private static final int FEWEST_LINES = 10;

    private static final Checks CHECKS = new Checks("ReadmeTest");

    public static void main(String[] args) throws IOException, ReflectiveOperationException {
        String readme = Files.readString(Path.of("README.md"));
        example(readme);
        for (Method method : HoldQueue.class.getMethods()) {
            if (method.getDeclaringClass() == HoldQueue.class) {
                CHECKS.due(method + " is told", readme.contains("\n| `" + method.getName() + "("), true);
            }
        }
        try (DirectoryStream<Path> tests = Files.newDirectoryStream(TESTS, "*Test.java")) {
            for (Path test : tests) {
                CHECKS.due(test + " is told", readme.contains("- `src/test/java/" + test.getFileName() + "`"), true);
            }
        }
        CHECKS.end();
    }

    private static void example(String readme) throws ReflectiveOperationException {
        String code = readme.substring(readme.indexOf("```java") + 7, readme.lastIndexOf("```"));
        Map<String, Integer> named = new HashMap<>();
        HoldQueue house = new HoldQueue();
        int lines = 0;
        for (String line : code.strip().split("\n")) {
            Matcher call = LINE.matcher(line);
            if (call.matches()) {
                lines++;
                int answer = answer(house, call.group(2), call.group(3).split(", "), named);
                CHECKS.due(line, answer, Integer.parseInt(call.group(4)));
                named.put(call.group(1), answer);
            } else {
                CHECKS.due(line, line.equals("HoldQueue house = new HoldQueue();"), true);
            }
        }
        CHECKS.due("lines of the example", lines >= FEWEST_LINES, true);
    }

    private static int answer(HoldQueue house, String name, String[] words, Map<String, Integer> named)
            throws ReflectiveOperationException {
        for (Method method : HoldQueue.class.getDeclaredMethods()) {
            if (method.getName().equals(name)) {
                Object[] arguments = new Object[words.length];
                for (int n = 0; n < words.length; n++) {
                    int number = named.containsKey(words[n]) ? named.get(words[n]) : Integer.parseInt(words[n]);
                    boolean isLong = method.getParameterTypes()[n] == long.class;
                    arguments[n] = isLong ? (Object) (long) number : (Object) number;
                }
                return (Integer) method.invoke(house, arguments);
            }
        }
        throw new NoSuchMethodException(name);
    }
}
