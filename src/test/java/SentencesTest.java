import java.io.IOException;
import java.nio.file.DirectoryStream;
import java.nio.file.Files;
import java.nio.file.Path;
import java.util.ArrayList;
import java.util.List;
import java.util.regex.Matcher;
import java.util.regex.Pattern;

/**
 * Holds the words that the tests say they test against the document: each of
 * them stands in it, and no part of it, from its first line to what isn't
 * promised, is left without one.
 */
public final class SentencesTest {
    private static final Path DOCUMENT = Path.of("../shared/DOC.md");
    private static final Path TESTS = Path.of("src/test/java");
    private static final Pattern SAID = Pattern.compile("Bench\\.says\\(((?:[^\"()]|\"[^\"]*\")*)\\);");
    private static final Pattern TEXT = Pattern.compile("\"([^\"]*)\"");

    public static void main(String[] args) throws IOException {
        if (!Files.isReadable(DOCUMENT)) {
            System.out.println("the document isn't here: nothing is held against it");
            return;
        }
        String document = promisesOf(Files.readString(DOCUMENT));
        boolean[] tested = new boolean[document.length()];
        List<String> said = wordsSaid();
        Bench.due("whether the tests say what they test", said.size() > 50, true);
        for (String words : said) {
            Bench.due("whether the document says: " + words, mark(document, words, tested), true);
        }
        Bench.due("what no test says it tests", untested(document, tested), "");
        Bench.end();
    }

    /** What is promised as one line, without headings, fences and the signatures, which repeat the face. */
    private static String promisesOf(String document) {
        int end = document.indexOf("## Not promised");
        Bench.due("whether the document tells where it promises nothing more", end > 0, true);
        return document.substring(0, end < 0 ? document.length() : end)
                .replaceAll("(?m)^#.*$", " ")
                .replaceAll("(?m)^```.*$", " ")
                .replaceAll("(?m)^`[^`]*`: ", " ")
                .replaceAll("\\s+", " ");
    }

    private static List<String> wordsSaid() throws IOException {
        List<String> said = new ArrayList<>();
        try (DirectoryStream<Path> files = Files.newDirectoryStream(TESTS, "*Test.java")) {
            for (Path file : files) {
                Matcher calls = SAID.matcher(Files.readString(file));
                while (calls.find()) {
                    said.add(joined(calls.group(1)));
                }
            }
        }
        return said;
    }

    private static String joined(String texts) {
        StringBuilder words = new StringBuilder();
        Matcher each = TEXT.matcher(texts);
        while (each.find()) {
            words.append(each.group(1));
        }
        return words.toString();
    }

    /** Marks the words wherever the document has them; whether it has them. */
    private static boolean mark(String document, String words, boolean[] tested) {
        boolean found = false;
        int at = document.indexOf(words);
        while (at >= 0 && !words.isEmpty()) {
            found = true;
            java.util.Arrays.fill(tested, at, at + words.length(), true);
            at = document.indexOf(words, at + 1);
        }
        return found;
    }

    private static String untested(String document, boolean[] tested) {
        StringBuilder left = new StringBuilder();
        for (int at = 0; at < document.length(); at++) {
            if (!tested[at] && document.charAt(at) != ' ') {
                boolean goesOn = at > 0 && (!tested[at - 1] && document.charAt(at - 1) == ' ');
                left.append(goesOn ? " " : "").append(document.charAt(at));
            }
        }
        return left.toString();
    }
}
