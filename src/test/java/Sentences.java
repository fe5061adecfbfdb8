import java.io.IOException;
import java.nio.file.Files;
import java.nio.file.Path;
import java.util.LinkedHashMap;
import java.util.Map;
import java.util.regex.Matcher;
import java.util.regex.Pattern;

/**
 * The document's sentences, by its sections. A test quotes the sentence that it is about; a quote that the
 * document does not have is wrong, so is one that is asked nothing about, and in the end so is each part of a
 * section that no test has quoted.
 */
final class Sentences {
    private static final Path DOCUMENT = Path.of("../shared/DOC.md");

    private final Check check;
    private final Map<String, StringBuilder> left = new LinkedHashMap<>();
    private String latest = "";
    private int askedAhead;

    Sentences(Check check) throws IOException {
        this.check = check;
        String title = "";
        for (String line : Files.readAllLines(DOCUMENT)) {
            Matcher heading = Pattern.compile("## (Promise \\d+|[^:]*).*").matcher(line);
            if (heading.matches()) {
                title = heading.group(1);
                left.put(title, new StringBuilder());
            } else if (!title.isEmpty() && !line.startsWith("```")) {
                left.get(title).append(' ').append(line.trim());
            }
        }
    }

    /** What follows is asked about this sentence of that section. */
    void says(String section, String quote) {
        closeLatest();
        latest = section + " says '" + quote + "'";
        askedAhead = check.asked() + 1;
        check.about(latest);
        StringBuilder text = left.get(section);
        int at = text == null ? -1 : text.indexOf(quote);
        check.due("the document's having it", at >= 0, true);
        for (int k = at; at >= 0 && k < at + quote.length(); k++) {
            text.setCharAt(k, '.');
        }
    }

    private void closeLatest() {
        if (!latest.isEmpty()) {
            check.due("something being asked about it", check.asked() > askedAhead, true);
        }
    }

    /** All of the sections whose titles begin so has been quoted, but for the calls' own heads. */
    void finish(String titles) {
        closeLatest();
        latest = "";
        for (Map.Entry<String, StringBuilder> section : left.entrySet()) {
            if (section.getKey().startsWith(titles)) {
                check.about(section.getKey());
                String rest = section.getValue().toString().replaceFirst("^ *`[^`]*`:", "");
                rest = rest.replaceAll("==== \\d\\.", "").replaceAll("[^A-Za-z0-9]+", " ").trim();
                check.due("what no test quotes (" + rest + ")", rest.length(), 0);
            }
        }
        check.about("");
    }
}
