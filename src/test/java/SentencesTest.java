import java.io.IOException;
import java.nio.charset.StandardCharsets;
import java.nio.file.Files;
import java.nio.file.Path;
import java.util.List;

/**
 * The document, sentence by sentence from its first line to its last (src/test/sentences.txt), each
 * with the tests that would fail if it did not hold: no sentence is left out, and each test is run.
 */
public final class SentencesTest {
    private static final Path TABLE = Path.of("src", "test", "sentences.txt");
    private static final Path DOCUMENT = Path.of("..", "shared", "DOC.md");
    private static final String INDENT = "    ";
    private static final String NOTHING_TO_TEST = "-";

    private SentencesTest() {
    }

    public static void main(String[] args) throws IOException {
        List<String> table = Files.readAllLines(TABLE, StandardCharsets.UTF_8);
        theTableIsTheWholeDocument(table);
        eachSentenceHasTests(table);
        for (String line : table) {
            if (line.startsWith(INDENT) && !line.trim().equals(NOTHING_TO_TEST)) {
                for (String test : line.trim().split(" +")) {
                    theTestIsRun(test);
                }
            }
        }
        Check.finish();
    }

    private static void theTableIsTheWholeDocument(List<String> table) throws IOException {
        StringBuilder told = new StringBuilder();
        for (String line : table) {
            if (!line.startsWith(INDENT)) {
                told.append(line).append(' ');
            }
        }
        String[] got = words(told.toString());
        String[] want = words(Files.readString(DOCUMENT, StandardCharsets.UTF_8));
        for (int i = 0; i < Math.max(got.length, want.length); i++) {
            String gotWord = i < got.length ? got[i] : "the end";
            String wantWord = i < want.length ? want[i] : "the end";
            Check.due("word " + i + " of the table, behind '" + (i > 0 && i <= want.length ? want[i - 1] : "") + "',", gotWord, wantWord);
            if (!gotWord.equals(wantWord)) {
                return;
            }
        }
    }

    private static String[] words(String text) {
        return text.trim().split("\\s+");
    }

    private static void eachSentenceHasTests(List<String> table) {
        String sentence = "";
        boolean isTested = true;
        for (String line : table) {
            boolean isText = !line.isBlank() && !line.startsWith(INDENT);
            if (isText) {
                sentence = isTested ? line : sentence + " " + line;
                isTested = false;
            } else if (line.startsWith(INDENT)) {
                isTested = true;
            } else {
                Check.due("'" + sentence + "' has tests", isTested, true);
            }
        }
        Check.due("'" + sentence + "' has tests", isTested, true);
    }

    /** A test that main does not call says nothing. */
    private static void theTestIsRun(String test) throws IOException {
        int dot = test.indexOf('.');
        String source = Files.readString(Path.of("src", "test", "java", test.substring(0, dot) + ".java"), StandardCharsets.UTF_8);
        String method = test.substring(dot + 1);
        Check.due(test + " is there", source.contains("static void " + method + "("), true);
        int main = source.indexOf("public static void main(");
        String body = source.substring(main, source.indexOf("\n    }\n", main));
        Check.due(test + " is run", method.equals("main") || body.contains(" " + method + "();"), true);
    }
}
