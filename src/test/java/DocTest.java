import java.io.IOException;
import java.nio.file.DirectoryStream;
import java.nio.file.Files;
import java.nio.file.Path;
import java.util.regex.Matcher;
import java.util.regex.Pattern;

/** The words that the tests say stand in the document, and each word of its terms and promises is said by a test. */
public final class DocTest {
    private static final Path DOC = Path.of("../shared/DOC.md"), TESTS = Path.of("src/test/java");
    private static final int PROMISES = 44;
    private static final Pattern SAID = Pattern.compile("C\\.says\\((\\d+), \"((?:[^\"\\\\]|\\\\.)*)\"\\);");
    private static final Check C = new Check();

    /** Part 0 is the terms, part n what stands with promise n. */
    private static final String[] parts = new String[PROMISES + 1];
    private static final boolean[][] said = new boolean[PROMISES + 1][];

    private static void readDocument() throws IOException {
        String doc = Files.readString(DOC);
        parts[0] = doc.substring(doc.indexOf("## Terms") + 8, doc.indexOf("Ahead of the calls `work`"));
        for (int n = 1; n <= PROMISES; n++) {
            int from = doc.indexOf("\n## Promise " + n + ":");
            int to = doc.indexOf("\n## ", from + 1);
            // the promise's words stand behind its call, which stands in signs of its own
            parts[n] = doc.substring(doc.indexOf("`:", from) + 2, to);
        }
        for (int n = 0; n <= PROMISES; n++) {
            parts[n] = parts[n].replace("```text", " ").replace("```", " ").replaceAll("======== \\d", " ").replaceAll("\\s+", " ");
            said[n] = new boolean[parts[n].length()];
        }
    }

    private static boolean sayIn(int part, String words) {
        boolean stands = false;
        for (int at = parts[part].indexOf(words); at >= 0; at = parts[part].indexOf(words, at + 1)) {
            stands = true;
            for (int i = at; i < at + words.length(); i++) said[part][i] = true;
        }
        return stands;
    }

    private static void readTests() throws IOException {
        try (DirectoryStream<Path> files = Files.newDirectoryStream(TESTS, "*Test.java")) {
            for (Path file : files) {
                String code = Files.readString(file);
                Matcher m = SAID.matcher(code);
                int many = 0;
                while (m.find()) {
                    many++;
                    int promise = Integer.parseInt(m.group(1));
                    C.holds(file + ": promise " + promise, promise >= 1 && promise <= PROMISES);
                    boolean inPromise = sayIn(promise, m.group(2));
                    boolean inTerms = sayIn(0, m.group(2));
                    C.holds(file + ": \"" + m.group(2) + "\" stands with promise " + promise + " or in the terms", inPromise || inTerms);
                }
                C.due(file + ": all that is said is read", many, code.split("C\\.says\\(", -1).length - 1);
            }
        }
    }

    private static void allIsSaid() {
        for (int n = 0; n <= PROMISES; n++) {
            StringBuilder unsaid = new StringBuilder();
            for (int i = 0; i < said[n].length; i++) {
                boolean isWord = Character.isLetterOrDigit(parts[n].charAt(i));
                if (said[n][i] || !isWord && unsaid.length() == 0) unsaid.append(unsaid.length() == 0 || unsaid.charAt(unsaid.length() - 1) == '/' ? "" : "/");
                else unsaid.append(parts[n].charAt(i));
            }
            String left = unsaid.toString().replaceAll("/[^A-Za-z0-9]*/", "/");
            C.holds((n == 0 ? "the terms" : "promise " + n) + ": no test says " + left, !left.matches(".*[A-Za-z0-9].*"));
        }
    }

    public static void main(String[] args) throws IOException {
        readDocument();
        readTests();
        allIsSaid();
        C.end();
    }
}
