import java.io.IOException;
import java.nio.file.Files;
import java.nio.file.Path;
import java.util.Arrays;
import java.util.LinkedHashMap;
import java.util.Map;
import java.util.function.Consumer;
import java.util.regex.Matcher;
import java.util.regex.Pattern;

/**
 * Sentences of the document that name a boundary, each with a test of its own. A sentence is quoted with the
 * part of the document that holds it; at the end, each word there that names a boundary must have been quoted.
 */
final class Sentences {
    private static final Path DOC = Path.of("../shared/DOC.md");
    private static final Pattern BOUNDARY = Pattern.compile("\\b(BAD|NOT|FULL|NONE|None|none|No|Else|NULL|INDEX|CAST|"
            + "STORE|SIZE:|at most|at first|up to|above|below|cut|wrap|lowest bits|before any|nobody|fewest|least|"
            + "latest|greatest|fewer|no such|lost|LOST|without|perhaps|\\d+ to \\d+|\\d+ \\.\\. \\d+|change)\\b");

    private final Check check = new Check("BoundariesTest");
    private final Map<String, String> parts = new LinkedHashMap<>();
    private final Map<String, boolean[]> quoted = new LinkedHashMap<>();

    Sentences() throws IOException {
        for (String part : Files.readString(DOC).split("\n## |\n======== ")) {
            String[] titleAndText = part.replace("# CampWeek", "").split("\n|(?<=^\\d) ", 2);
            String title = titleAndText[0].replaceAll(":.*", "").trim();
            String text = titleAndText.length < 2 ? "" : titleAndText[1].replaceAll("\\s+", " ");
            parts.put(title, text);
            quoted.put(title, new boolean[text.length()]);
        }
        quote("Not promised", parts.getOrDefault("Not promised", "?"));
    }

    private void quote(String part, String sentence) {
        int at = parts.getOrDefault(part, "").indexOf(sentence);
        if (at < 0 || parts.get(part).indexOf(sentence, at + 1) >= 0) {
            check.fault(part + " does not hold once: " + sentence);
            return;
        }
        Arrays.fill(quoted.get(part), at, at + sentence.length(), true);
    }

    /** Runs the test of a sentence that stands once in that part of the document. */
    void say(String part, String sentence, Consumer<Check> test) {
        quote(part, sentence);
        Check own = new Check(part + " \"" + sentence + "\"");
        test.accept(own);
        check.take(own);
    }

    void end() {
        int words = 0;
        for (Map.Entry<String, String> part : parts.entrySet()) {
            Matcher word = BOUNDARY.matcher(part.getValue());
            while (word.find()) {
                words++;
                if (!quoted.get(part.getKey())[word.start()]) {
                    int from = Math.max(0, word.start() - 40);
                    check.fault(part.getKey() + " has a boundary without a test: .."
                            + part.getValue().substring(from, Math.min(word.end() + 30, part.getValue().length())));
                }
            }
        }
        if (words < 100) {
            check.fault("only " + words + " words in the document name a boundary");
        }
        check.end();
    }
}
