import java.io.IOException;
import java.nio.file.DirectoryStream;
import java.nio.file.Files;
import java.nio.file.Path;
import java.util.ArrayList;
import java.util.List;
import java.util.regex.Matcher;
import java.util.regex.Pattern;

/**
 * Holds the tests and the document together: what a test names by Due.sentence stands in the document, and each
 * sentence of the document that promises something is named by a test.
 */
public final class SentenceIndexTest {
    private static final Path DOCUMENT = Path.of("../shared/DOC.md");
    private static final Path TESTS = Path.of("src/test/java");
    private static final Pattern NAMED = Pattern.compile("Due\\.sentence\\(\"([^\"]+)\"\\)");

    /** More than this many sentences are in the document: a reading of it that finds fewer has missed some. */
    private static final int LEAST_SENTENCES = 35;

    public static void main(String[] args) throws IOException {
        // Without the document nothing can be told of the class or its tests.
        if (!Files.exists(DOCUMENT)) {
            System.out.println("there is no " + DOCUMENT + " to look in");
            return;
        }
        String document = Files.readString(DOCUMENT);
        List<String> sentences = sentencesOf(promised(document));
        List<String> named = namedByTests();
        Due.same("more than " + LEAST_SENTENCES + " sentences found", sentences.size() > LEAST_SENTENCES, true);
        for (String words : named) {
            Due.same("'" + words + "' stands in the document", document.contains(words), true);
        }
        for (String sentence : sentences) {
            Due.same("'" + sentence + "' is named by a test", isNamed(sentence, named), true);
        }
        Due.end();
    }

    /** A test names a part of a sentence, or a sentence with others beside it. */
    private static boolean isNamed(String sentence, List<String> named) {
        for (String words : named) {
            if (sentence.contains(words) || words.contains(sentence)) {
                return true;
            }
        }
        return false;
    }

    /** The document without its head, the code of its face, and what is not promised. */
    private static String promised(String document) {
        int calls = document.indexOf("An object is used");
        int face = document.indexOf("## The public face");
        int terms = document.indexOf("## Terms");
        int rest = document.indexOf("## Not promised");
        return document.substring(calls, face) + document.substring(terms, rest);
    }

    private static List<String> sentencesOf(String text) {
        List<String> sentences = new ArrayList<>();
        for (String line : text.split("\n")) {
            String said = line.replaceFirst("^`[^`]*`: ", "").strip();
            if (said.isEmpty() || said.startsWith("#") || said.startsWith("```")) {
                continue;
            }
            sentences.addAll(List.of(said.split("(?<=\\.) (?=[A-Z])")));
        }
        return sentences;
    }

    private static List<String> namedByTests() throws IOException {
        List<String> named = new ArrayList<>();
        try (DirectoryStream<Path> files = Files.newDirectoryStream(TESTS, "*Test.java")) {
            for (Path file : files) {
                Matcher matcher = NAMED.matcher(Files.readString(file));
                while (matcher.find()) {
                    named.add(matcher.group(1));
                }
            }
        }
        return named;
    }
}
