import java.io.IOException;
import java.lang.reflect.InvocationTargetException;
import java.lang.reflect.Method;
import java.lang.reflect.Modifier;
import java.nio.file.Files;
import java.nio.file.Path;
import java.util.Arrays;
import java.util.List;
import java.util.TreeSet;
import java.util.regex.Matcher;
import java.util.regex.Pattern;
import java.util.stream.Collectors;
import java.util.stream.Stream;

/** The calls of README.md's example answer as it says; it leaves out no call and no test. */
public final class ReadmeTest {
    private static final Pattern EXAMPLE = Pattern.compile("(?s)```java\n(.*?)```");
    private static final Pattern NEW_OBJECT =
            Pattern.compile("WeighOff show = new WeighOff\\((\\d+)\\);\\s*(//.*)?");
    private static final Pattern CALL =
            Pattern.compile("show\\.(\\w+)\\(([^()]*)\\);\\s*(?:// (.*))?");
    /** What stands behind a call is its answer, alone or with words behind a colon. */
    private static final Pattern ANSWER =
            Pattern.compile("(-?\\d+|true|false|NONE|throws \\w+)(:.*)?");
    private static final String NOTHING = "nothing";

    private final TreeSet<String> called = new TreeSet<>();
    private WeighOff show = null;

    public static void main(String[] args) throws IOException {
        String readme = Files.readString(Path.of("README.md"));
        ReadmeTest test = new ReadmeTest();
        Matcher example = EXAMPLE.matcher(readme);
        while (example.find()) {
            example.group(1).lines().forEach(test::tryLine);
        }
        Check.same("the calls of the example", publicCalls().toString(), test.called.toString());
        for (String name : testNames()) {
            Check.holds("README.md tells of " + name, true, readme.contains("`" + name + "`"));
        }
        Check.end();
    }

    private void tryLine(String line) {
        Matcher made = NEW_OBJECT.matcher(line);
        Matcher call = CALL.matcher(line);
        if (made.matches()) {
            show = new WeighOff(Integer.parseInt(made.group(1)));
        } else if (call.matches() && show != null) {
            called.add(call.group(1));
            Check.same(line, told(call.group(3)), answer(call.group(1), call.group(2)));
        } else {
            Check.same(line, "a call of the example", "another thing");
        }
    }

    private static String told(String comment) {
        Matcher answer = ANSWER.matcher(comment == null ? "" : comment);
        return answer.matches() ? answer.group(1) : NOTHING;
    }

    private String answer(String name, String arguments) {
        Object[] with = values(arguments);
        for (Method method : WeighOff.class.getMethods()) {
            if (method.getName().equals(name) && method.getParameterCount() == with.length) {
                return answer(method, with);
            }
        }
        return "there is no such call";
    }

    private String answer(Method method, Object[] with) {
        try {
            Object answer = method.invoke(show, with);
            boolean none = Integer.valueOf(WeighOff.NONE).equals(answer);
            return none ? "NONE" : answer == null ? NOTHING : answer.toString();
        } catch (InvocationTargetException e) {
            return "throws " + e.getCause().getClass().getSimpleName();
        } catch (IllegalAccessException | IllegalArgumentException e) {
            return e.toString();
        }
    }

    private static Object[] values(String arguments) {
        return Arrays.stream(arguments.split(",")).map(String::trim).filter(text -> !text.isEmpty())
                .map(ReadmeTest::value).toArray();
    }

    private static Object value(String text) {
        if (text.equals("true") || text.equals("false")) {
            return Boolean.valueOf(text);
        }
        return text.equals("WeighOff.NONE") ? WeighOff.NONE : Integer.parseInt(text);
    }

    private static TreeSet<String> publicCalls() {
        return Arrays.stream(WeighOff.class.getDeclaredMethods())
                .filter(method -> Modifier.isPublic(method.getModifiers())).map(Method::getName)
                .collect(Collectors.toCollection(TreeSet::new));
    }

    private static List<String> testNames() throws IOException {
        try (Stream<Path> files = Files.list(Path.of("src/test/java"))) {
            return files.map(file -> file.getFileName().toString().replace(".java", "")).sorted()
                    .filter(name -> name.endsWith("Test")).collect(Collectors.toList());
        }
    }
}
