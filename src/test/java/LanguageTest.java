import java.io.IOException;
import java.lang.reflect.Field;
import java.lang.reflect.Modifier;
import java.nio.charset.StandardCharsets;
import java.nio.file.Files;
import java.nio.file.Path;
import java.util.ArrayList;
import java.util.List;
import java.util.Map;
import java.util.Set;
import java.util.TreeMap;
import java.util.TreeSet;
import java.util.regex.Matcher;
import java.util.regex.Pattern;

/** Those rules of ../shared/LANGUAGE.md that can be seen in the text of the class, run from the project's folder. */
public final class LanguageTest {
    private static final Check CHECK = new Check("language");
    private static final Set<String> LIBRARY = Set.of("Math", "Integer", "String", "System");
    private static final Set<String> CALLED = Set.of("Math.max", "Math.min", "Integer.bitCount", "System.arraycopy");

    public static void main(String[] args) throws IOException {
        String source = Files.readString(Path.of("src/main/java/EightReasons.java"), StandardCharsets.ISO_8859_1);
        String code = source.replaceAll("(?s)/\\*.*?\\*/", "").replaceAll("//[^\n]*", "")
                .replaceAll("\"[^\"\n]*\"", "\"\"").replaceAll("'[^'\n]*'", "0");
        source.chars().forEach(c -> CHECK.is(c == 10 || c >= 32 && c < 127, "a sign of the text: " + c));
        words(code);
        loops(code);
        methods(code);
        classes();
        CHECK.close();
    }

    private static void words(String code) {
        String[] forbidden = {"throw", "throws", "try", "catch", "finally", "synchronized", "assert", "package", "import", "native",
            "volatile", "transient", "protected", "instanceof", "hashCode", "toString", "var", "yield", "goto", "float", "double",
            "Exception", "Error", "Object", "Thread", "Random", "currentTimeMillis", "nanoTime"};
        for (String word : forbidden) {
            CHECK.is(!Pattern.compile("\\b" + word + "\\b").matcher(code).find(), "without " + word);
        }
        CHECK.is(!code.contains("->") && !code.contains("::"), "no lambda, no method reference");
        CHECK.is(!code.contains("\" +") && !code.contains("+ \""), "no texts joined by +");
        CHECK.is(!Pattern.compile("static\\s*\\{").matcher(code).find(), "no static initialiser");
        Matcher called = Pattern.compile("\\b([A-Z][a-z]\\w*)\\.(\\w+)\\(").matcher(code);
        while (called.find()) {
            boolean own = !LIBRARY.contains(called.group(1));
            CHECK.is(own || CALLED.contains(called.group(1) + "." + called.group(2)), "of the library: " + called.group());
        }
        Set<String> types = new TreeSet<>();
        Matcher type = Pattern.compile("\\bnew (\\w+)").matcher(code);
        while (type.find()) {
            types.add(type.group(1));
        }
        CHECK.due("what is made", types.toString(), "[Acts, Formula, Loom, Reader, State, Suit, Ways, Witness, boolean, byte, int, long]");
    }

    /** Each loop tells its bound in its first line or the one behind it. */
    private static void loops(String code) {
        Matcher loop = Pattern.compile("\\b(?:for|while) \\(([^{]*)\\{").matcher(code);
        int found = 0;
        while (loop.find()) {
            found++;
            CHECK.is(loop.group(1).matches("(?s).*[<>].*"), "a loop with a bound: " + loop.group(1));
        }
        CHECK.is(found > 30, "loops are found");
        CHECK.is(!Pattern.compile("\\bdo \\{").matcher(code).find(), "no loop that tells its bound at its end");
    }

    /**
     * Calls that are no recursion go eight deep at the most: methods that call one another in a circle count as one here. All names differ,
     * so that a name tells which method is called.
     */
    private static void methods(String code) {
        Map<String, String> bodies = new TreeMap<>();
        String name = "";
        int indent = 0;
        StringBuilder body = new StringBuilder();
        for (String line : code.split("\n")) {
            CHECK.is(line.length() <= 160, "a line of " + line.length());
            Matcher head = Pattern.compile("(?: {4}| {8})(?:public |private |static |final )*(?:[\\w\\[\\]]+ )?(\\w+)\\(.*\\) \\{").matcher(line);
            if (head.matches() && !line.matches(" +(if|for|while|switch) .*")) {
                name = head.group(1);
                body.setLength(0);
                indent = line.length() - line.stripLeading().length();
            } else if (!name.isEmpty() && line.equals(" ".repeat(indent) + "}")) {
                CHECK.is(body.chars().filter(c -> c == '\n').count() <= 60, "short: " + name);
                CHECK.is(bodies.put(name, body.toString()) == null, "a name of one method alone: " + name);
                name = "";
            } else {
                body.append(line).append('\n');
            }
        }
        Map<String, Set<String>> calls = new TreeMap<>();
        for (String one : bodies.keySet()) {
            calls.put(one, new TreeSet<>());
            for (String other : bodies.keySet()) {
                if (Pattern.compile("\\b" + other + "\\(").matcher(bodies.get(one)).find()) {
                    calls.get(one).add(other);
                }
            }
        }
        CHECK.is(calls.size() > 120, "methods with their calls: " + calls.size());
        Map<String, Set<String>> reached = new TreeMap<>();
        calls.keySet().forEach(one -> reached.put(one, reach(one, calls)));
        for (String one : calls.keySet()) {
            CHECK.is(deepest(one, calls, reached) <= 8, "eight deep at the most: " + one + " " + deepest(one, calls, reached));
        }
    }

    private static Set<String> reach(String from, Map<String, Set<String>> calls) {
        Set<String> found = new TreeSet<>();
        List<String> open = new ArrayList<>(calls.get(from));
        while (!open.isEmpty()) {
            String one = open.remove(open.size() - 1);
            if (found.add(one)) {
                open.addAll(calls.get(one));
            }
        }
        return found;
    }

    private static int deepest(String from, Map<String, Set<String>> calls, Map<String, Set<String>> reached) {
        Set<String> circle = new TreeSet<>(Set.of(from));
        reached.get(from).stream().filter(other -> reached.get(other).contains(from)).forEach(circle::add);
        int most = 0;
        for (String one : circle) {
            for (String other : calls.get(one)) {
                most = circle.contains(other) ? most : Math.max(most, deepest(other, calls, reached));
            }
        }
        return most + 1;
    }

    private static void classes() {
        CHECK.is(EightReasons.class.getDeclaredClasses().length <= 11, "twelve classes at most");
        List<Class<?>> all = new ArrayList<>(List.of(EightReasons.class.getDeclaredClasses()));
        all.add(EightReasons.class);
        for (Class<?> one : all) {
            int fields = 0;
            for (Field field : one.getDeclaredFields()) {
                boolean constant = Modifier.isStatic(field.getModifiers());
                fields += constant ? 0 : 1;
                CHECK.is(!constant || Set.of("int", "long", "boolean", "char", "java.lang.String").contains(field.getType().getName()),
                        "a constant: " + field);
            }
            CHECK.is(fields <= 20, "twenty fields at most: " + one);
        }
    }
}
