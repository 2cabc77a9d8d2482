import java.io.IOException;
import java.nio.file.Files;
import java.nio.file.Path;
import java.util.List;
import java.util.regex.Matcher;
import java.util.regex.Pattern;
import java.util.stream.Collectors;
import java.util.stream.Stream;

/** Each place of the document that names an end, an empty, a full or a refused one stands in words that a test quotes. */
public final class SentencesTest {
    private static final Due due = new Due("SentencesTest");
    /** Words handed to says, or in a row of words that are. */
    private static final Pattern QUOTED = Pattern.compile("(?:says\\(| {8})\"([^\"\\\\]+)\"");
    private static final Pattern AN_END = Pattern.compile(
        "\\d \\.\\. |at most|at least|at first|or more|if t is|stays|none|\\btoo\\b|\\bonce\\b|never|fewer|least|"
        + "\\bBAD\\b|\\bNO\\b|\\bFULL\\b|\\bNONE\\b|\\bempty\\b|changed|changing|not so|not OVER|strides no more|lowest");

    public static void main(String[] args) throws IOException {
        String doc = Due.document();
        boolean[] quoted = new boolean[doc.length()];
        for (String test : tests()) markQuotes(doc, test, quoted);
        int from = doc.indexOf("## Terms"), to = doc.indexOf("## Not promised");
        due.holds("the document has its parts", from >= 0 && to > from);
        Matcher ends = AN_END.matcher(doc).region(Math.max(from, 0), Math.max(to, 0));
        int many = 0;
        while (ends.find()) {
            many++;
            String around = doc.substring(Math.max(0, ends.start() - 30), Math.min(doc.length(), ends.end() + 30));
            due.holds("a test quotes [" + around.replace('\n', ' ') + "]", quoted[ends.start()] && quoted[ends.end() - 1]);
        }
        due.holds("many such places", many > 100);
        eachPromiseIsQuoted(doc, quoted);
        due.end();
    }

    private static void eachPromiseIsQuoted(String doc, boolean[] quoted) {
        Matcher promises = Pattern.compile("## Promise (\\d+): .*\n\n(`.*)").matcher(doc);
        int many = 0;
        while (promises.find()) {
            many++;
            int n = promises.start(2);
            while (n < promises.end(2) && quoted[n]) n++;
            due.holds("promise " + promises.group(1) + " is quoted, from " + doc.substring(n, promises.end(2)), n == promises.end(2));
        }
        due.is("promises", many, 39);
    }

    private static List<String> tests() throws IOException {
        Path folder = Path.of(System.getProperty("project", ".")).resolve("src/test/java");
        try (Stream<Path> files = Files.list(folder)) {
            List<Path> tests = files.filter(p -> p.toString().endsWith("Test.java")).sorted().collect(Collectors.toList());
            List<String> texts = new java.util.ArrayList<>();
            for (Path test : tests) texts.add(Files.readString(test));
            return texts;
        }
    }

    private static void markQuotes(String doc, String test, boolean[] quoted) {
        Matcher words = QUOTED.matcher(test);
        while (words.find()) {
            String said = words.group(1);
            for (int at = doc.indexOf(said); at >= 0; at = doc.indexOf(said, at + 1)) {
                for (int n = at; n < at + said.length(); n++) quoted[n] = true;
            }
        }
    }
}
