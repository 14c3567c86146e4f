import java.io.IOException;
import java.nio.file.Files;
import java.nio.file.Path;
import java.util.ArrayList;
import java.util.Arrays;
import java.util.List;
import java.util.regex.Matcher;
import java.util.regex.Pattern;

/** Each promise, and all words of the document that name an edge, stand in a sentence that some test asks. */
public final class SentencesTest {
    private static final Path DOCUMENT = Path.of("../shared/DOC.md");
    private static final Path TESTS = Path.of("src/test/java");
    private static final Pattern ASKED = Pattern.compile("\\bsentence\\(((?:\"[^\"]*\"[\\s+]*)+)\\)");
    /** Words that name an edge. */
    private static final Pattern EDGE = Pattern.compile("[^\n]*(\\d to \\d|at most|at first|NONE|false|are there|rounded|forgotten)[^\n]*");
    private static final Pattern PART = Pattern.compile("\"([^\"]*)\"");

    public static void main(String[] args) throws IOException {
        if (!Files.isReadable(DOCUMENT)) {
            System.out.println("the document is not there");
            return;
        }
        List<String> sentences = sentences();
        int wrong = 0;
        int asked = 0;
        String document = Files.readString(DOCUMENT);
        for (String one : document.substring(document.indexOf("## Promise 1:")).split("## Promise ")) {
            if (one.isBlank()) {
                continue;
            }
            asked++;
            String promise = one.contains("## Not promised") ? one.substring(0, one.indexOf("## Not promised")) : one;
            if (sentences.stream().noneMatch(promise::contains)) {
                wrong++;
                System.out.println("nothing is asked of promise " + promise.lines().findFirst().orElse(""));
            }
        }
        String unasked = unasked(document, sentences);
        Matcher edge = EDGE.matcher(unasked.substring(0, unasked.indexOf("## Not promised")));
        while (edge.find()) {
            wrong++;
            System.out.println("an edge that stands in no sentence: " + edge.group());
        }
        if (args.length > 0) {
            System.out.println(unasked);
        }
        System.out.println(sentences.size() + " sentences, " + asked + " promises, " + wrong + " wrong");
        if (wrong != 0 || asked != 33) {
            System.exit(1);
        }
    }

    private static List<String> sentences() throws IOException {
        List<String> sentences = new ArrayList<>();
        List<Path> files;
        try (var all = Files.list(TESTS)) {
            files = all.filter(f -> f.toString().endsWith(".java")).sorted().toList();
        }
        for (Path file : files) {
            Matcher asked = ASKED.matcher(Files.readString(file));
            while (asked.find()) {
                StringBuilder words = new StringBuilder();
                Matcher part = PART.matcher(asked.group(1));
                while (part.find()) {
                    words.append(part.group(1));
                }
                sentences.add(words.toString());
            }
        }
        return sentences;
    }

    /** The document's terms and promises with a _ for what stands in a sentence. */
    private static String unasked(String document, List<String> sentences) {
        char[] left = document.toCharArray();
        for (String words : sentences) {
            for (int at = document.indexOf(words); at >= 0; at = document.indexOf(words, at + 1)) {
                Arrays.fill(left, at, at + words.length(), '_');
            }
        }
        String all = new String(left).replaceAll("_+", "_");
        return all.substring(all.indexOf("## Terms"));
    }
}
