import java.io.IOException;
import java.nio.file.DirectoryStream;
import java.nio.file.Files;
import java.nio.file.Path;
import java.util.ArrayList;
import java.util.List;
import java.util.regex.Matcher;
import java.util.regex.Pattern;

/** Whether the tests' sentences are the document's own words, and none of its terms and promises is without a test. */
public final class SentencesTest {
    private static final Path DOCUMENT = Path.of("../shared/DOC.md");
    private static final Pattern CALL = Pattern.compile("Check\\.sentence\\(((?:\\s*\\+?\\s*\"(?:[^\"\\\\]|\\\\.)*\")+)\\)");
    private static final Pattern PIECE = Pattern.compile("\"((?:[^\"\\\\]|\\\\.)*)\"");
    private static final String MASK = "\u0001";

    public static void main(String[] args) throws IOException {
        if (!Files.exists(DOCUMENT)) {
            System.out.println(DOCUMENT + " isn't there: nothing is compared");
            return;
        }
        String left = promised(Files.readString(DOCUMENT));
        String whole = left;
        for (String sentence : sentences()) {
            Check.that("'" + sentence + "' stands in the document", whole.contains(sentence));
            left = left.replace(sentence, MASK);
        }
        left = left.replace(MASK, " ").replaceAll("\\s+", " ").trim();
        Check.that("each sentence has a test, but: " + left, left.isEmpty());
        Check.finish();
    }

    private static List<String> sentences() throws IOException {
        List<String> found = new ArrayList<>();
        try (DirectoryStream<Path> tests = Files.newDirectoryStream(Path.of("src/test/java"), "*Test.java")) {
            for (Path test : tests) {
                Matcher call = CALL.matcher(Files.readString(test));
                while (call.find()) {
                    StringBuilder sentence = new StringBuilder();
                    Matcher piece = PIECE.matcher(call.group(1));
                    while (piece.find()) {
                        sentence.append(piece.group(1).replace("\\\"", "\""));
                    }
                    found.add(sentence.toString());
                }
            }
        }
        // A short sentence may stand in a longer one, which must go first.
        found.sort((a, b) -> b.length() - a.length());
        return found;
    }

    /** The words of the terms and promises, without headings, signatures, signs of the text's form and the constants. */
    private static String promised(String document) {
        String calls = document.substring(document.indexOf("An object is used"), document.indexOf("## The public face"));
        String terms = document.substring(document.indexOf("## Terms"), document.indexOf("The constants:"));
        String promises = document.substring(document.indexOf("## Promise 1:"), document.indexOf("## Not promised"));
        return (calls + terms + promises).replaceAll("(?m)^##.*$", "").replaceAll("(?m)^```.*$", "")
                .replaceAll("(?m)^`[^`]*`:", "").replaceAll("(?m)^I+\\.", "").replaceAll("\\s+", " ");
    }
}
