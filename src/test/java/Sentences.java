import java.io.IOException;
import java.nio.charset.StandardCharsets;
import java.nio.file.Files;
import java.nio.file.Path;
import java.util.HashSet;
import java.util.List;
import java.util.Set;

/**
 * The document's sentences. A boundary test bears the words that it tests; they must stand in the
 * document, so that one finds the sentence from the test and no test outlives its sentence.
 */
final class Sentences {
    interface Test {
        void run();
    }

    private static final Path DOCUMENT = Path.of("../shared/DOC.md");
    /** The lines that say what is so: none of them may be without a test. */
    private static final String TELLING =
        "(Wards|Barges|People)\\. .*|  \\d\\. .*|A method that throws .*|An object is used .*|.*\\b(Returns|Throws) .*";

    private final List<String> lines;
    private final Set<Integer> quoted = new HashSet<>();

    Sentences() throws IOException {
        lines = Files.readAllLines(DOCUMENT, StandardCharsets.UTF_8);
    }

    /** Runs the test of these words of this section. */
    void test(String section, String words, Test test) {
        Check.about(section + ", '" + words + "': ");
        Check.due("the words stand in the document", quote(section, words), true);
        int before = Check.asked();
        String thrown = "nothing";
        try {
            test.run();
        } catch (RuntimeException e) {
            thrown = e.toString();
        }
        Check.dueText("what reached the test", thrown, "nothing");
        Check.due("the test checks something", Check.asked() > before + 1, true);
        Check.about("");
    }

    void promise(int number, String words, Test test) {
        test("Promise " + number, words, test);
    }

    void terms(String words, Test test) {
        test("Terms", words, test);
    }

    /** Each telling line of the document has been quoted by a test. */
    void checkThatNoneIsLeft() {
        int telling = 0;
        for (int i = 0; i < lines.size(); i++) {
            if (lines.get(i).matches(TELLING)) {
                telling++;
                Check.due("a test for '" + lines.get(i) + "'", quoted.contains(i), true);
            }
        }
        Check.due("telling lines found", telling >= 80, true);
    }

    private boolean quote(String section, String words) {
        String header = "";
        boolean found = false;
        for (int i = 0; i < lines.size(); i++) {
            String line = lines.get(i);
            if (line.startsWith("## ")) {
                header = line.substring(3);
            }
            boolean here = header.equals(section) || header.startsWith(section + ":");
            if (here && line.contains(words)) {
                quoted.add(i);
                found = true;
            }
        }
        return found;
    }
}
