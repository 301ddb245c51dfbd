import java.io.IOException;
import java.nio.charset.StandardCharsets;
import java.nio.file.DirectoryStream;
import java.nio.file.Files;
import java.nio.file.Path;
import java.util.regex.Matcher;
import java.util.regex.Pattern;

/**
 * Each sentence of the document's Terms and Promises is held against the class by a test that quotes it, and
 * each quotation stands in the document as it is quoted.
 */
public final class SentencesTest {
    private static final Due due = new Due();
    private static final Path DOCUMENT = Path.of("..", "shared", "DOC.md");
    private static final Path TESTS = Path.of("src", "test", "java");
    private static final String TEXT = "\"(?:[^\"\\\\]|\\\\.)*\"";
    private static final Pattern QUOTATION = Pattern.compile(
            "due\\.sentence\\(\\s*(" + TEXT + "(?:\\s*\\+\\s*" + TEXT + ")*)\\s*\\);");
    // What is no sentence by itself: headings, signatures, and what leads over from one to the next.
    private static final String[] LEADS = {"## Terms", "## Promise \\d+: [A-Za-z ]+?(?= `)", "`[^`]*`: ",
        "Ahead of the calls .*? the interface says: ---- [a-z ,]+\\.", "==== \\d", "```(text)?", ", hang on a PLACE,",
        "SHOWS \\(shows telling v, on her SIDE or not\\):", "A TEXT is read from"};

    private SentencesTest() {
    }

    public static void main(String[] args) throws IOException {
        String document = inOneLine(Files.readString(DOCUMENT, StandardCharsets.US_ASCII));
        String left = document.substring(document.indexOf("## Terms"), document.indexOf("## Not promised"));
        for (String lead : LEADS) {
            left = Pattern.compile(lead).matcher(left).replaceAll(found -> "~".repeat(found.group().length()));
        }
        StringBuilder untested = new StringBuilder(left);
        try (DirectoryStream<Path> files = Files.newDirectoryStream(TESTS, "*Test.java")) {
            for (Path file : files) {
                Matcher quotation = QUOTATION.matcher(Files.readString(file, StandardCharsets.US_ASCII));
                while (quotation.find()) {
                    String quoted = quoted(quotation.group(1));
                    due.holds(file + " quotes: " + quoted, document.contains(quoted));
                    strike(untested, left, quoted);
                }
            }
        }
        for (String words : untested.toString().split("~+")) {
            due.holds("a test quotes: " + words, !Pattern.compile("[A-Za-z0-9]").matcher(words).find());
        }
        due.end("SentencesTest");
    }

    private static String inOneLine(String text) {
        return text.replaceAll("\\s+", " ");
    }

    private static String quoted(String constants) {
        StringBuilder words = new StringBuilder();
        Matcher constant = Pattern.compile(TEXT).matcher(constants);
        while (constant.find()) {
            words.append(constant.group(), 1, constant.group().length() - 1);
        }
        return words.toString();
    }

    /** Wherever it stands: a sentence that stands twice is quoted by the test of each. */
    private static void strike(StringBuilder untested, String text, String quoted) {
        for (int at = text.indexOf(quoted); at >= 0; at = text.indexOf(quoted, at + 1)) {
            for (int i = at; i < at + quoted.length(); i++) {
                untested.setCharAt(i, '~');
            }
        }
    }
}
