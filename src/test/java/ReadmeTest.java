import java.io.IOException;
import java.lang.reflect.InvocationTargetException;
import java.lang.reflect.Method;
import java.lang.reflect.Modifier;
import java.nio.file.Files;
import java.nio.file.Path;
import java.util.List;
import java.util.Set;
import java.util.TreeSet;
import java.util.regex.Matcher;
import java.util.regex.Pattern;
import java.util.stream.Stream;

/** README.md: its example is run as it stands there, and it leaves out no method and no test. */
public final class ReadmeTest {
    private static final String MAKING = "CallFrames x = new CallFrames();";
    private static final Pattern CALL = Pattern.compile("x\\.(\\w+)\\((.*?)\\);(?:\\s+// (-?\\d+|CallFrames\\.NONE)"
        + "(?:: .*)?)?");

    public static void main(String[] args) throws IOException {
        Due due = new Due();
        String readme = Files.readString(Path.of("README.md"));
        Set<String> called = example(due, readme);
        for (Method method : CallFrames.class.getDeclaredMethods()) {
            if (Modifier.isPublic(method.getModifiers())) {
                due.holds("the example calls " + method.getName(), called.contains(method.getName()));
                due.holds("the table has " + method.getName(), readme.contains("\n| `" + method.getName() + "("));
            }
        }
        for (String test : tests()) {
            due.holds("the tests are listed with " + test, readme.contains('`' + test + '`'));
        }
        due.holds("the way to run the tests is named", readme.contains("\n    .ci/run\n"));
        due.holds("it is there", Files.isRegularFile(Path.of(".ci/run")));
        due.end();
    }

    private static Set<String> example(Due due, String readme) {
        List<String> lines = readme.lines().dropWhile(line -> !line.equals("```java")).skip(1)
            .takeWhile(line -> !line.equals("```")).toList();
        Set<String> called = new TreeSet<>();
        CallFrames x = new CallFrames();
        due.holds("the example begins with " + MAKING, lines.indexOf(MAKING) == 0);
        for (String line : lines) {
            Matcher call = CALL.matcher(line);
            if (call.matches()) {
                called.add(call.group(1));
                due.same(line, wanted(call.group(3)), answer(x, call.group(1), call.group(2)));
            } else {
                due.holds("a line of the example: " + line,
                    line.isBlank() || line.startsWith("// ") || line.equals(MAKING));
            }
        }
        return called;
    }

    private static String wanted(String told) {
        return "CallFrames.NONE".equals(told) ? Integer.toString(CallFrames.NONE) : String.valueOf(told);
    }

    /** Of a method without an answer, null, as nothing stands behind its call. */
    private static String answer(CallFrames x, String name, String told) {
        Object[] values = told.isEmpty() ? new Object[0] : Stream.of(told.split(", ")).map(ReadmeTest::value).toArray();
        for (Method method : CallFrames.class.getMethods()) {
            if (method.getName().equals(name) && method.getParameterCount() == values.length) {
                try {
                    return String.valueOf(method.invoke(x, values));
                } catch (IllegalAccessException | InvocationTargetException e) {
                    return "an exception: " + e.getCause();
                }
            }
        }
        return "no such method";
    }

    private static Object value(String told) {
        if (told.equals("true") || told.equals("false")) {
            return told.equals("true");
        }
        String[] shifted = told.split(" << ");
        int number = Integer.parseInt(shifted[0]);
        return shifted.length == 1 ? number : number << Integer.parseInt(shifted[1]);
    }

    private static List<String> tests() throws IOException {
        try (Stream<Path> files = Files.list(Path.of("src/test/java"))) {
            return files.map(file -> file.getFileName().toString()).filter(name -> name.endsWith("Test.java"))
                .map(name -> name.replace(".java", "")).sorted().toList();
        }
    }
}
