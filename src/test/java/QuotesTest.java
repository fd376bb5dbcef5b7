import java.io.IOException;
import java.nio.file.Files;
import java.nio.file.Path;
import java.util.List;
import java.util.TreeSet;
import java.util.regex.Matcher;
import java.util.regex.Pattern;
import java.util.stream.Collectors;
import java.util.stream.Stream;

/** Each sentence that a test of bounds says it stands for is the document's, and no promise is without one. */
final class QuotesTest {
    private static final Check CHECK = new Check("QuotesTest");
    private static final Path TESTS = Path.of("src/test/java"), DOCUMENT = Path.of("../shared/DOC.md");
    private static final Pattern QUOTE = Pattern.compile("Promises? ([0-9, to]+): \"([^\"]+)\"");
    private static final Pattern TEST = Pattern.compile("private static void (\\w+)\\(\\) \\{");

    private static String oneLine(String text) {
        return text.replaceAll("(?m)^ *\\* ", " ").replace("`", "").replaceAll("\\s+", " ");
    }

    private static List<Path> testsOfBounds() throws IOException {
        try (Stream<Path> files = Files.list(TESTS)) {
            return files.filter(file -> file.toString().endsWith("BoundsTest.java")).collect(Collectors.toList());
        }
    }

    private static int countOf(Pattern pattern, String text) {
        int many = 0;
        for (Matcher matcher = pattern.matcher(text); matcher.find(); ) many++;
        return many;
    }

    public static void main(String[] args) throws IOException {
        String document = oneLine(Files.readString(DOCUMENT));
        TreeSet<Integer> promises = new TreeSet<>();
        for (Path file : testsOfBounds()) {
            String text = Files.readString(file);
            Matcher quotes = QUOTE.matcher(oneLine(text));
            while (quotes.find()) {
                boolean stands = document.contains(quotes.group(2));
                CHECK.due(file + ": the document says \"" + quotes.group(2) + "\"", stands ? 1 : 0, 1);
                if (quotes.group(1).contains("to")) continue;
                for (String number : quotes.group(1).split(", ")) promises.add(Integer.parseInt(number));
            }
            boolean isEach = countOf(QUOTE, oneLine(text)) >= countOf(TEST, text.replaceAll("(?s)main\\(.*", ""));
            // Helpers with arguments are no tests; each test without them stands under a sentence.
            CHECK.due(file + ": each test has its sentence", isEach ? 1 : 0, 1);
        }
        for (int promise = 1; promise <= 36; promise++) {
            CHECK.due("promise " + promise + " has a sentence", promises.contains(promise) ? 1 : 0, 1);
        }
        CHECK.end();
    }
}
