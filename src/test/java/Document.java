import java.io.IOException;
import java.io.UncheckedIOException;
import java.nio.file.Files;
import java.nio.file.Path;
import java.util.ArrayList;
import java.util.LinkedHashMap;
import java.util.List;
import java.util.Map;
import java.util.TreeSet;

/** The document, as the sentences of its sections; the parts that semicolons set off count as sentences. */
final class Document {
    private static final Path FILE = Path.of("../shared/DOC.md");
    private static final int PROMISES = 30;

    private final Map<String, List<String>> sections = new LinkedHashMap<>();
    private final Map<String, TreeSet<String>> quoted = new LinkedHashMap<>();

    Document() {
        String section = "";
        for (String line : linesOfFile()) {
            if (line.startsWith("#")) {
                section = line.replaceFirst("^#+ ", "").replaceFirst("^(Promise \\d+): .*", "$1");
                sections.put(section, new ArrayList<>());
                quoted.put(section, new TreeSet<>());
            } else if (!line.isBlank() && !section.isEmpty()) {
                sections.get(section).addAll(List.of(plain(line).split("(?<=[.;]) ")));
            }
        }
    }

    private static List<String> linesOfFile() {
        try {
            return Files.readAllLines(FILE);
        } catch (IOException e) {
            throw new UncheckedIOException(e);
        }
    }

    /** Without the signs that set a name off, and the declaration with which a promise begins. */
    private static String plain(String line) {
        return line.replaceFirst("^`[^`]*\\([^`]*`: ", "").replaceFirst("^- ", "").replace("`", "").trim();
    }

    /** Whether the section says this, which may be a part of a sentence, or several in a row. */
    boolean says(String section, String quote) {
        if (!sections.containsKey(section)) {
            return false;
        }
        quoted.get(section).add(quote);
        return String.join(" ", sections.get(section)).contains(quote);
    }

    /** The sentences of which no quote was asked for. */
    List<String> notQuoted() {
        List<String> left = new ArrayList<>();
        for (String section : testedSections()) {
            for (String sentence : sections.get(section)) {
                if (!sentence.startsWith("Ahead of the calls") && !isQuoted(section, sentence)) {
                    left.add(section + ": " + sentence);
                }
            }
        }
        return left;
    }

    private boolean isQuoted(String section, String sentence) {
        for (String quote : quoted.get(section)) {
            if (sentence.contains(quote) || quote.contains(sentence)) {
                return true;
            }
        }
        return false;
    }

    private static List<String> testedSections() {
        List<String> tested = new ArrayList<>(List.of("Land", "Hints and stages", "Texts and ciphers", "Walkers",
                "Answers and scores", "Exceptions"));
        for (int i = 1; i <= PROMISES; i++) {
            tested.add("Promise " + i);
        }
        return tested;
    }
}
