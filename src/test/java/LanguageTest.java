import java.io.IOException;
import java.nio.charset.StandardCharsets;
import java.nio.file.Files;
import java.nio.file.Path;
import java.util.HashMap;
import java.util.Map;
import java.util.regex.Matcher;
import java.util.regex.Pattern;

/** Reads the source and looks for what LANGUAGE.md forbids and a plain text search can find. */
public final class LanguageTest {
    private static final Path SOURCE = Path.of("src/main/java/BargeWards.java");
    private static final String[] FORBIDDEN = {
        "\\bpackage\\b", "\\bimport\\b", "->", "::", "\\bfinally\\b", "\\bsynchronized\\b", "\\bassert\\b",
        "\\btry\\b", "\\bcatch\\b", "\\bprotected\\b", "\\bextends\\b", "\\bstatic\\s*\\{", "\\binstanceof\\b",
        "\\bwhile\\s*\\(\\s*true", "\\w+Exact\\b", "\\bRandom\\b", "\\bThread\\b", "\\bfloat\\b",
        "\\b(?!System\\.arraycopy)System\\b", "\\bMath\\.(?!min\\(|max\\()", "\"\\s*\\+|\\+\\s*\"",
    };
    private static final Pattern METHOD =
        Pattern.compile("\\n {4,8}(?:\\w+(?:\\[\\])* )*(\\w+)\\(([^()]*)\\)[^;{}()]*\\{");
    private static final Pattern CALL = Pattern.compile("\\b(\\w+)\\(");
    private static final int MOST_DEEP = 8;
    private static final int MOST_LINES = 60;
    private static final int MOST_PARAMETERS = 7;

    private LanguageTest() {
    }

    public static void main(String[] args) throws IOException {
        String text = Files.readString(SOURCE, StandardCharsets.US_ASCII);
        String code = text.replaceAll("(?s)/\\*.*?\\*/", " ").replaceAll("//[^\\n]*", "");
        for (String pattern : FORBIDDEN) {
            Check.due("rule against " + pattern + " broken", Pattern.compile(pattern).matcher(code).find(), false);
        }
        Map<String, String> bodies = bodies(code);
        Check.due("methods found", bodies.size() >= 38 + 20, true);
        for (String name : bodies.keySet()) {
            int deep = deep(name, bodies, 0);
            Check.due("rule 11: " + name + " goes " + deep + " deep", deep <= MOST_DEEP, true);
            int lines = bodies.get(name).split("\n").length;
            Check.due("rule 11: " + name + " is too long", lines <= MOST_LINES, true);
        }
        Check.finish("LanguageTest");
    }

    private static Map<String, String> bodies(String code) {
        Map<String, String> bodies = new HashMap<>();
        Matcher m = METHOD.matcher(code);
        while (m.find()) {
            String name = m.group(1);
            Check.due("two methods are named " + name, bodies.containsKey(name), false);
            Check.due("rule 11: parameters of " + name, m.group(2).split(",").length <= MOST_PARAMETERS, true);
            bodies.put(name, code.substring(m.end(), endOfBlock(code, m.end())));
        }
        return bodies;
    }

    private static int endOfBlock(String code, int start) {
        int open = 1;
        int at = start;
        while (open > 0 && at < code.length()) {
            char c = code.charAt(at);
            open += c == '{' ? 1 : c == '}' ? -1 : 0;
            at++;
        }
        return at;
    }

    /** How many calls stand open at most, this one and those of the library counted. */
    private static int deep(String name, Map<String, String> bodies, int outer) {
        if (outer > MOST_DEEP + 2 || !bodies.containsKey(name)) {
            return 1;
        }
        int deepest = 0;
        Matcher m = CALL.matcher(bodies.get(name));
        while (m.find()) {
            deepest = Math.max(deepest, deep(m.group(1), bodies, outer + 1));
        }
        return deepest + 1;
    }
}
