import java.io.IOException;
import java.lang.reflect.Method;
import java.lang.reflect.Modifier;
import java.nio.charset.StandardCharsets;
import java.nio.file.DirectoryStream;
import java.nio.file.Files;
import java.nio.file.Path;
import java.util.List;

/** README.md tells how to use the class and how to run its tests, and what it tells is so. */
public final class ReadmeTest {
    private static final Path README = Path.of("README.md");
    private static final Path TESTS = Path.of("src/test/java");

    private final List<String> lines;
    private int examples = 0;

    private ReadmeTest(List<String> lines) {
        this.lines = lines;
    }

    public static void main(String[] args) throws IOException {
        ReadmeTest test = new ReadmeTest(Files.readAllLines(README, StandardCharsets.UTF_8));
        test.exampleAnswersAsWritten();
        test.eachCallIsNamed();
        test.eachTestIsNamed();
        test.howToRunTheTests();
        Check.finish("ReadmeTest");
    }

    private void exampleAnswersAsWritten() {
        BargeWards town = new BargeWards();
        int ward = town.addWard(2);
        example("int ward = town.addWard(2);", "" + ward);
        int barge = town.addBarge(1);
        example("int barge = town.addBarge(1);", "" + barge);
        int person = town.board(barge, 3);
        example("int person = town.board(barge, 3);", "" + person);
        example("town.pass(1);", "" + town.pass(1));
        example("town.wardOf(person);", "" + town.wardOf(person));
        example("town.daysUntilHome(person);", "" + town.daysUntilHome(person));
        example("town.layStraw(ward);", "" + town.layStraw(ward));
        example("town.pass(3);", "" + town.pass(3));
        example("town.isHome(person);", "" + town.isHome(person));
        example("town.board(1, 3);", Check.outcome(() -> town.board(1, 3)).replace('.', ' '));
        int written = 0;
        for (String line : lines) {
            written += line.contains("town.") && line.contains("; ") ? 1 : 0;
        }
        Check.due("lines of the example in README.md", written, examples);
    }

    /** The line begins with the call, and what is behind // begins with the answer. */
    private void example(String call, String answer) {
        examples++;
        String told = "no such line";
        for (String line : lines) {
            if (line.startsWith(call)) {
                told = line.substring(call.length()).trim().replaceFirst("^// ([^:]*).*$", "$1");
            }
        }
        Check.dueText("README.md on " + call, told, answer);
    }

    private void eachCallIsNamed() {
        for (Method m : BargeWards.class.getDeclaredMethods()) {
            if (Modifier.isPublic(m.getModifiers())) {
                Check.due("README.md lists " + m.getName(), tableHas("`" + m.getName() + "(", m), true);
            }
        }
    }

    /** A table's row names the call with as many parameters as it has. */
    private boolean tableHas(String start, Method m) {
        for (String line : lines) {
            int at = line.indexOf(start);
            if (line.startsWith("| ") && at >= 0) {
                String inside = line.substring(at + start.length(), line.indexOf(')', at));
                int named = inside.isEmpty() ? 0 : inside.split(",").length;
                return named == m.getParameterCount();
            }
        }
        return false;
    }

    private void eachTestIsNamed() throws IOException {
        int found = 0;
        try (DirectoryStream<Path> files = Files.newDirectoryStream(TESTS, "*Test.java")) {
            for (Path file : files) {
                found++;
                String name = file.getFileName().toString().replace(".java", "");
                Check.due("README.md lists " + name, has("| `" + name + "` |"), true);
            }
        }
        Check.due("tests found", found >= 12, true);
    }

    private void howToRunTheTests() {
        Check.due("README.md has .ci/run on a line", lines.contains("    .ci/run"), true);
        Check.due(".ci/run can be run", Files.isExecutable(Path.of(".ci/run")), true);
    }

    private boolean has(String words) {
        for (String line : lines) {
            if (line.contains(words)) {
                return true;
            }
        }
        return false;
    }
}
