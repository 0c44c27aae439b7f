import java.nio.file.Files;
import java.nio.file.Path;
import java.util.List;

/** What can be seen of ../shared/LANGUAGE.md by reading the source's words; run from the project's folder. */
public final class LanguageTest {
    private static final String[] NOT_ALLOWED = {
        "\\bpackage\\b", "\\bimport\\b", "->", "::", "\\bcatch\\b", "\\bfinally\\b", "\\bthrow\\b",
        "\\bsynchronized\\b", "\\bassert\\b", "\\bvolatile\\b", "\\btransient\\b", "\\bnative\\b",
        "\\bprotected\\b", "\\bstatic \\{", "\\binstanceof\\b", "\\bdouble\\b", "\\bSystem\\.(?!arraycopy\\()",
        "\\bMath\\.(?!(max|min|abs)\\()", "Exact\\b", "\\bString\\b", "\\bwhile\\b", "\\bequals\\b",
        "\\bhashCode\\b", "\\btoString\\b"
    };
    private static final int LONGEST_METHOD = 60;
    private static final int MOST_PARAMETERS = 7;

    public static void main(String[] args) throws Exception {
        Due due = new Due();
        due.at("LANGUAGE.md");
        List<String> lines = Files.readAllLines(Path.of("src/main/java/MistakeAlmanac.java"));
        String whole = withoutComments(String.join("\n", lines));
        for (String pattern : NOT_ALLOWED) {
            due.holds("no " + pattern, !whole.matches("(?s).*(" + pattern + ").*"));
        }
        due.holds("one public class", whole.split("\\bpublic (final )?class\\b", -1).length == 2);
        due.holds("signs 1 to 127 alone", whole.chars().allMatch(sign -> sign > 0 && sign < 128));
        checkMethods(due, whole.split("\n"));
        due.end("LanguageTest");
    }

    private static String withoutComments(String source) {
        return source.replaceAll("(?s)/\\*.*?\\*/", "").replaceAll("//[^\n]*", "");
    }

    private static void checkMethods(Due due, String[] lines) {
        int begin = -1;
        for (int i = 0; i < lines.length; i++) {
            String line = lines[i];
            if (line.matches("^( {4}| {8})[A-Za-z].*\\(.*\\) \\{$") && !line.trim().matches("(if|for|switch|else)\\b.*")) {
                begin = i;
                String parameters = line.substring(line.indexOf('(') + 1);
                due.holds("few parameters in" + line, parameters.split(",").length <= MOST_PARAMETERS);
            }
            if (begin >= 0 && line.equals(lines[begin].replaceAll("\\S.*", "") + "}")) {
                due.holds("a short method:" + lines[begin], i - begin < LONGEST_METHOD);
                begin = -1;
            }
        }
    }
}
