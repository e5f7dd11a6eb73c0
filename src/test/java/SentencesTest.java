import java.io.IOException;
import java.nio.file.DirectoryStream;
import java.nio.file.Files;
import java.nio.file.Path;
import java.util.ArrayList;
import java.util.LinkedHashMap;
import java.util.List;
import java.util.Map;
import java.util.regex.Matcher;
import java.util.regex.Pattern;

/**
 * Every sentence of the document's 'What it is', 'Terms' and promises has a test that quotes it, by
 * Check.says(), and every quote stands in the section that it names. Second and third argument: the
 * folder of the tests, and the document.
 */
public final class SentencesTest {
    private static final Check CHECK = new Check();
    private static final Pattern QUOTE = Pattern.compile("says\\(\"([^\"]+)\",\\s*\"([^\"]+)\"\\)");
    private static final String BETWEEN_SENTENCES = "(?:(?<=\\.)|(?<=\\.\\)))\\s+(?=[A-Z(]|\\d: )";

    public static void main(String[] args) throws IOException {
        Map<String, String> sections = sections(Files.readString(Path.of(args[2])));
        Map<String, List<String>> quotes = quotes(Path.of(args[1]));
        quotes.forEach((section, words) -> quotesStandInTheirSection(section, words, sections));
        sections.forEach((section, text) -> sentencesAreQuoted(section, text, quotes));
        CHECK.that("the document has twenty promises", sections.containsKey("Promise 20"));
        CHECK.end();
    }

    /** By the title's part before a colon: 'Promise 2: purpose' is 'Promise 2'. */
    private static Map<String, String> sections(String document) {
        Map<String, String> sections = new LinkedHashMap<>();
        for (String section : document.split("(?m)^## ")) {
            String title = section.lines().findFirst().orElse("");
            sections.put(title.split(":")[0], section.substring(title.length()).strip().replaceAll("\\s+", " "));
        }
        return sections;
    }

    private static Map<String, List<String>> quotes(Path folder) throws IOException {
        Map<String, List<String>> quotes = new LinkedHashMap<>();
        try (DirectoryStream<Path> tests = Files.newDirectoryStream(folder, "*Test.java")) {
            for (Path test : tests) {
                Matcher quote = QUOTE.matcher(Files.readString(test));
                while (quote.find()) {
                    quotes.computeIfAbsent(quote.group(1), s -> new ArrayList<>()).add(quote.group(2));
                }
            }
        }
        return quotes;
    }

    private static void quotesStandInTheirSection(String section, List<String> quotes, Map<String, String> sections) {
        for (String quote : quotes) {
            CHECK.that(section + " has no words '" + quote + "'", sections.getOrDefault(section, "").contains(quote));
        }
    }

    private static void sentencesAreQuoted(String section, String text, Map<String, List<String>> quotes) {
        if (!section.equals("What it is") && !section.equals("Terms") && !section.startsWith("Promise ")) {
            return;
        }
        for (String sentence : text.split(BETWEEN_SENTENCES)) {
            boolean quoted = quotes.getOrDefault(section, List.of()).stream().anyMatch(sentence::contains);
            CHECK.that(section + ": no test quotes '" + sentence + "'", quoted);
        }
    }
}
