import java.io.IOException;
import java.nio.file.DirectoryStream;
import java.nio.file.Files;
import java.nio.file.Path;
import java.util.ArrayList;
import java.util.HashMap;
import java.util.List;
import java.util.Map;
import java.util.regex.Matcher;
import java.util.regex.Pattern;

/**
 * The sentences of the document that name a boundary each have a test that quotes them, and no
 * quotation says what the document does not say. It asks nothing where the document is not at hand.
 */
public final class SentencesTest {
    private static final Path DOCUMENT = Path.of("../shared/DOC.md");
    private static final Path TESTS = Path.of("src/test/java");
    private static final Pattern QUOTATION = Pattern.compile("\"((?:P\\d+|T) (?:[^\"\\\\]|\\\\.)*)\"");
    /** What stands among the terms without a boundary or an answer of its own. */
    private static final String[] WITHOUT_TEST = {"The keys of both holders of a box have to be turned",
        "The class computes opening times", "This class is not thread-safe."};

    /** The lines of a section by its name: T for all before the promises, P1 for promise 1, and so on. */
    private static final Map<String, List<String>> SECTIONS = new HashMap<>();
    private static final Map<String, List<String>> QUOTATIONS = new HashMap<>();

    public static void main(String[] args) throws IOException {
        if (!Files.exists(DOCUMENT)) {
            System.out.println("no document at " + DOCUMENT + ": nothing is compared");
            return;
        }
        readDocument();
        readQuotations();
        checkQuotations();
        checkPromises();
        checkTerms();
        Expect.finish();
    }

    private static void readDocument() throws IOException {
        String section = "T";
        for (String line : Files.readAllLines(DOCUMENT)) {
            if (line.startsWith("## Promise ")) {
                section = "P" + line.substring(11, line.indexOf(':'));
            } else if (line.startsWith("## Not promised")) {
                section = "rest";
            }
            SECTIONS.computeIfAbsent(section, name -> new ArrayList<>()).add(line);
        }
    }

    private static void readQuotations() throws IOException {
        try (DirectoryStream<Path> files = Files.newDirectoryStream(TESTS, "*Test.java")) {
            for (Path file : files) {
                String source = Files.readString(file).replaceAll("\"\\s*\\+\\s*\"", "");
                Matcher matcher = QUOTATION.matcher(source);
                while (matcher.find()) {
                    String text = matcher.group(1).replace("\\\"", "\"");
                    int blank = text.indexOf(' ');
                    QUOTATIONS.computeIfAbsent(text.substring(0, blank), name -> new ArrayList<>())
                            .add(text.substring(blank + 1));
                }
            }
        }
    }

    private static boolean isQuoted(String section, String line) {
        return QUOTATIONS.getOrDefault(section, List.of()).stream().anyMatch(line::contains);
    }

    private static void checkQuotations() {
        QUOTATIONS.forEach((section, quotations) -> {
            for (String quotation : quotations) {
                Expect.holds(() -> Expect.due(true, SECTIONS.getOrDefault(section, List.of()).stream()
                        .anyMatch(line -> line.contains(quotation))), "the document says: " + section + " " + quotation);
            }
        });
    }

    private static void checkPromises() {
        SECTIONS.forEach((section, lines) -> {
            for (String line : lines) {
                boolean hasRange = line.startsWith("- `") && line.matches(".*\\d.*");
                if (section.startsWith("P") && (hasRange || line.startsWith("Throws "))) {
                    Expect.holds(() -> Expect.due(true, isQuoted(section, line)), "a test quotes: " + section + " " + line);
                }
            }
        });
    }

    private static void checkTerms() {
        List<String> lines = SECTIONS.get("T");
        for (String line : lines.subList(lines.indexOf("## Terms") + 1, lines.size())) {
            if (line.startsWith("Ahead of the calls")) {
                return;
            }
            for (String sentence : line.split("(?<=\\.)\\s+(?=[A-Z])")) {
                if (needsTest(sentence)) {
                    Expect.holds(() -> Expect.due(true, isQuoted("T", sentence)), "a test quotes: T " + sentence);
                }
            }
        }
    }

    private static boolean needsTest(String sentence) {
        for (String start : WITHOUT_TEST) {
            if (sentence.startsWith(start)) {
                return false;
            }
        }
        // Shorter ones are the names of the paragraphs.
        return sentence.length() > 20;
    }
}
