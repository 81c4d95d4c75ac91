import java.io.IOException;
import java.lang.reflect.Method;
import java.lang.reflect.Modifier;
import java.nio.file.Files;
import java.nio.file.Path;
import java.util.List;
import java.util.regex.Matcher;
import java.util.regex.Pattern;
import java.util.stream.Collectors;
import java.util.stream.Stream;

/** README.md says how to use the class and how to run its tests: what it says is so. Run from the project's folder. */
public final class ReadmeTest {
    private static final Check CHECK = new Check("readme");
    private static final Pattern CALL = Pattern.compile("x\\.(\\w+)\\(([^)]*)\\); *// (-?\\d+|true|false)\\b(.*)");

    public static void main(String[] args) throws Exception {
        String page = Files.readString(Path.of("README.md"));
        example(page);
        namesEveryCall(page);
        namesEveryTest(page);
        CHECK.close();
    }

    private static void example(String page) throws ReflectiveOperationException {
        Matcher block = Pattern.compile("(?s)```java\n(.*?)```").matcher(page);
        CHECK.is(block.find(), "there is an example");
        String[] lines = block.group(1).split("\n");
        CHECK.due("the example's first line", lines[0], "EightReasons x = new EightReasons();");
        EightReasons x = new EightReasons();
        for (int i = 1; i < lines.length; i++) {
            Matcher call = CALL.matcher(lines[i]);
            CHECK.is(call.matches(), "a call with its answer: " + lines[i]);
            if (call.matches()) {
                String[] given = call.group(2).isEmpty() ? new String[0] : call.group(2).split(", ");
                CHECK.due(lines[i], String.valueOf(answer(x, call.group(1), given)), call.group(3));
                if (call.group(1).equals("feed")) {
                    CHECK.due(lines[i], " // " + call.group(3) + ": \"" + fed(given).stripTrailing() + "\"",
                            " // " + call.group(3) + call.group(4));
                }
            }
        }
    }

    private static Object answer(EightReasons x, String name, String[] given) throws ReflectiveOperationException {
        for (Method method : EightReasons.class.getDeclaredMethods()) {
            if (Modifier.isPublic(method.getModifiers()) && method.getName().equals(name)
                    && method.getParameterCount() == given.length) {
                Object[] values = new Object[given.length];
                for (int i = 0; i < given.length; i++) {
                    boolean truth = method.getParameterTypes()[i] == boolean.class;
                    values[i] = truth ? (Object) Boolean.valueOf(given[i]) : (Object) Integer.decode(given[i]);
                }
                return method.invoke(x, values);
            }
        }
        return "no such call";
    }

    private static String fed(String[] given) {
        StringBuilder text = new StringBuilder();
        for (String four : given) {
            int value = Integer.decode(four);
            for (int shift = 24; shift >= 0; shift -= 8) {
                text.append((char) (value >> shift & 255));
            }
        }
        return text.toString();
    }

    private static void namesEveryCall(String page) {
        for (Method method : EightReasons.class.getDeclaredMethods()) {
            if (Modifier.isPublic(method.getModifiers())) {
                CHECK.is(page.contains("`" + method.getName() + "`"), "names the call " + method.getName());
            }
        }
        CHECK.is(page.contains("`NONE`, which is " + EightReasons.NONE), "names the constant");
    }

    private static void namesEveryTest(String page) throws IOException {
        List<String> tests;
        try (Stream<Path> files = Files.list(Path.of("src/test/java"))) {
            tests = files.map(file -> file.getFileName().toString()).filter(name -> name.endsWith("Test.java"))
                    .map(name -> name.replace(".java", "")).collect(Collectors.toList());
        }
        CHECK.is(tests.size() > 1, "there are tests");
        for (String test : tests) {
            CHECK.is(page.contains("`" + test + "`"), "names the test " + test);
        }
        CHECK.is(page.contains("`.ci/run`") && Files.isExecutable(Path.of(".ci/run")), "names the script that runs them");
    }
}
