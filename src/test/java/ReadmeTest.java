import java.lang.reflect.Field;
import java.lang.reflect.Method;
import java.lang.reflect.Modifier;
import java.nio.file.DirectoryStream;
import java.nio.file.Files;
import java.nio.file.Path;
import java.util.ArrayList;
import java.util.List;
import java.util.Map;
import java.util.Set;
import java.util.TreeMap;
import java.util.TreeSet;
import java.util.regex.Matcher;
import java.util.regex.Pattern;

/** What README.md shows as a call with its answer is what the class answers. */
public final class ReadmeTest {
    private static final String MADE = "MistakeAlmanac almanac = new MistakeAlmanac();";
    private static final Pattern SHOWN = Pattern.compile(
            "almanac\\.(\\w+)\\(([^()]*)\\);\\s*// (-?[0-9.]+f?|[A-Z_]+)(: .+)?");
    private static final Pattern ROW = Pattern.compile("\\| `(\\w+)\\(([^()]*)\\)` \\|.*");
    private static final Pattern CONSTANT = Pattern.compile("\\| `([A-Z_]+)` \\| (-?[0-9]+) \\|.*");
    // Outside the examples a call stands with the names of its arguments alone: no example is left out.
    private static final Pattern UNTESTED = Pattern.compile(
            ".*\\b\\w+\\([^()]*([0-9']|true|false)[^()]*\\).*");
    private static final int MOST_CALLS = 512;

    private final Due due = new Due();
    private final Map<String, Method> methods = new TreeMap<>();
    private final Map<String, Integer> constants = new TreeMap<>();
    private final Set<String> shownCalls = new TreeSet<>();
    private final Set<String> shownAnswers = new TreeSet<>();
    private MistakeAlmanac almanac;
    private int calls;

    public static void main(String[] args) throws Exception {
        ReadmeTest test = new ReadmeTest();
        test.readFace();
        List<String> prose = test.playExamples(Files.readAllLines(Path.of("README.md")));
        test.checkProse(prose);
        test.checkNothingIsLeftOut();
        test.checkTestsAreNamed(String.join("\n", prose));
        test.due.end("ReadmeTest");
    }

    private void readFace() throws Exception {
        for (Method method : MistakeAlmanac.class.getDeclaredMethods()) {
            if (Modifier.isPublic(method.getModifiers())) {
                methods.put(method.getName(), method);
            }
        }
        for (Field field : MistakeAlmanac.class.getDeclaredFields()) {
            if (Modifier.isPublic(field.getModifiers())) {
                constants.put(field.getName(), field.getInt(null));
            }
        }
    }

    /** Plays every block of Java; answers the lines that stand outside the blocks. */
    private List<String> playExamples(List<String> lines) throws Exception {
        List<String> prose = new ArrayList<>();
        boolean inside = false;
        for (int i = 0; i < lines.size(); i++) {
            String line = lines.get(i);
            due.at("README.md, line " + (i + 1));
            if (line.startsWith("```")) {
                inside = !inside;
                due.holds("a block of Java: " + line, line.equals(inside ? "```java" : "```"));
                almanac = null;
            } else if (inside) {
                play(line);
            } else {
                prose.add(line);
            }
        }
        due.holds("the end of the last block", !inside);
        return prose;
    }

    private void play(String line) throws Exception {
        if (line.equals(MADE)) {
            almanac = new MistakeAlmanac();
            calls = 0;
            return;
        }
        Matcher shown = SHOWN.matcher(line);
        if (almanac == null || !shown.matches() || !methods.containsKey(shown.group(1))) {
            due.holds("a call with its answer: " + line, false);
            return;
        }
        Method method = methods.get(shown.group(1));
        String[] words = words(shown.group(2));
        Class<?>[] types = method.getParameterTypes();
        due.is("arguments of " + line, words.length, types.length);
        Object[] arguments = new Object[types.length];
        for (int i = 0; i < types.length && i < words.length; i++) {
            arguments[i] = argument(types[i], words[i]);
        }
        calls++;
        due.holds("at most 512 calls of one object", calls <= MOST_CALLS);
        shownCalls.add(shown.group(1));
        checkAnswer(line, method.invoke(almanac, arguments), shown.group(3));
    }

    private void checkAnswer(String line, Object got, String told) {
        shownAnswers.add(told);
        if (got instanceof Float) {
            due.holds("a float is told: " + line, told.endsWith("f"));
            due.isFloat(line, (Float) got, Float.parseFloat(told));
        } else if (constants.containsKey(told)) {
            due.is(line, (Integer) got, constants.get(told));
        } else {
            due.is(line, (Integer) got, Integer.parseInt(told));
        }
    }

    private static String[] words(String list) {
        return list.isEmpty() ? new String[0] : list.split(", ");
    }

    private static Object argument(Class<?> type, String word) {
        if (type == boolean.class && (word.equals("true") || word.equals("false"))) {
            return word.equals("true");
        }
        if (type == char.class && word.matches("'.'")) {
            return word.charAt(1);
        }
        if (type == int.class && word.matches("-?[0-9]+")) {
            return Integer.parseInt(word);
        }
        throw new IllegalArgumentException("README.md shows " + word + " as " + type);
    }

    private void checkProse(List<String> prose) {
        Set<String> rows = new TreeSet<>();
        Map<String, Integer> told = new TreeMap<>();
        due.at("README.md, outside the examples");
        for (String line : prose) {
            due.holds("no call with values outside the examples: " + line, !UNTESTED.matcher(line).matches());
            Matcher row = ROW.matcher(line);
            if (row.matches()) {
                due.holds("a row for each call: " + line, rows.add(row.group(1)));
                Method method = methods.get(row.group(1));
                due.is("arguments of " + line, words(row.group(2)).length,
                        method == null ? -1 : method.getParameterCount());
            }
            Matcher constant = CONSTANT.matcher(line);
            if (constant.matches()) {
                told.put(constant.group(1), Integer.parseInt(constant.group(2)));
            }
        }
        due.holds("a row for each call of the face: " + rows, rows.equals(methods.keySet()));
        due.holds("the constants with their values: " + told, told.equals(constants));
    }

    private void checkNothingIsLeftOut() {
        due.at("README.md, the examples");
        for (String name : methods.keySet()) {
            due.holds(name + " is shown", shownCalls.contains(name));
        }
        for (String name : constants.keySet()) {
            due.holds(name + " is shown as an answer", shownAnswers.contains(name));
        }
    }

    private void checkTestsAreNamed(String prose) throws Exception {
        due.at("README.md, the tests");
        try (DirectoryStream<Path> files = Files.newDirectoryStream(Path.of("src/test/java"), "*.java")) {
            for (Path file : files) {
                String name = file.getFileName().toString().replace(".java", "");
                due.holds(name + " is named", prose.matches("(?s).*\\b" + name + "\\b.*"));
            }
        }
    }
}
