import java.io.IOException;
import java.nio.file.Files;
import java.nio.file.Path;
import java.util.ArrayList;
import java.util.List;
import java.util.Set;
import java.util.TreeSet;
import java.util.regex.Matcher;
import java.util.regex.Pattern;

/**
 * README.md tells every call of the document's face with what it throws, and its example answers as it
 * says. Second, third and fourth argument: the folder of the tests, the document and README.md.
 */
public final class ReadmeTest {
    private static final Check CHECK = new Check();
    private static final Pattern CALL = Pattern.compile("(?m)^ +public (\\w+ \\w+\\([^)]*\\))([^;]*);");
    private static final Pattern EXCEPTION = Pattern.compile("\\w+Exception");

    public static void main(String[] args) throws IOException {
        String readme = Files.readString(Path.of(args[3]));
        tellsEveryCall(readme, Files.readString(Path.of(args[2])));
        exampleAnswersAsItSays();
        exampleIsTheOneOfThisTest(readme, Files.readAllLines(Path.of(args[1], "ReadmeTest.java")));
        CHECK.end();
    }

    private static void tellsEveryCall(String readme, String document) {
        Matcher call = CALL.matcher(document);
        int calls = 0;
        while (call.find()) {
            calls++;
            String told = entry(readme, "- `" + call.group(1) + "`:");
            CHECK.that("README.md does not tell " + call.group(1), !told.isEmpty());
            CHECK.that("README.md tells of " + call.group(1) + " that it throws " + exceptions(told),
                    exceptions(told).equals(exceptions(call.group(2))));
        }
        CHECK.same("how many calls the document's face has", calls, 19);
    }

    /** A list's entry, with its lines that are set in. */
    private static String entry(String readme, String start) {
        Matcher entry = Pattern.compile("(?m)^" + Pattern.quote(start) + ".*(\n  .*)*").matcher(readme);
        return entry.find() ? entry.group() : "";
    }

    private static Set<String> exceptions(String text) {
        Set<String> names = new TreeSet<>();
        Matcher name = EXCEPTION.matcher(text);
        while (name.find()) {
            names.add(name.group());
        }
        return names;
    }

    private static void exampleAnswersAsItSays() {
        // the example:
        ConsentRegister register = new ConsentRegister();
        int mail = register.purpose(0);                  // 1: below the root, which is purpose 0
        int address = register.kind(30);                 // 0: due 30 days after the latest event
        int item = register.put(3, address, 500, 10);    // 0: person 3, value 500, day 10
        register.consent(3, mail, true, 15_000);         // yes, from minute 15,000 on
        long value = register.use(item, mail, 20_000);   // 500
        int ground = register.why();                     // 1: by consent
        int copy = register.derive(0, item, 0);          // 1: follows the item
        int gone = register.erase(3, 20_000);            // 2: the item and its copy
        // its end
        CHECK.same("mail", mail, 1);
        CHECK.same("address", address, 0);
        CHECK.same("item", item, 0);
        CHECK.same("value", value, 500);
        CHECK.same("ground", ground, 1);
        CHECK.same("copy", copy, 1);
        CHECK.same("gone", gone, 2);
    }

    private static void exampleIsTheOneOfThisTest(String readme, List<String> test) {
        List<String> lines = new ArrayList<>();
        for (String line : test.subList(test.indexOf("        // the example:") + 1, test.indexOf("        // its end"))) {
            lines.add(line.strip());
        }
        String example = "```java\n" + String.join("\n", lines) + "\n```";
        CHECK.that("README.md has another example than this test", readme.contains(example));
    }
}
