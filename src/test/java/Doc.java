import java.io.IOException;
import java.nio.file.Files;
import java.nio.file.Path;
import java.util.BitSet;
import java.util.LinkedHashMap;
import java.util.List;
import java.util.Map;

/**
 * The document's own words. A test names the sentence that it is for, so that a sentence which no
 * test names, or a test whose sentence the document does not hold, is told as a fault.
 */
final class Doc {
    private static final Path FILE = Path.of("..", "shared", "DOC.md");
    private static final Map<String, String> SECTIONS = new LinkedHashMap<>();
    private static final Map<String, BitSet> NAMED = new LinkedHashMap<>();

    private Doc() {
    }

    /** Reads the sections whose sentences bind: "Terms" and each "Promise n". */
    static void open() {
        for (String section : sections()) {
            String title = titleOf(section);
            if (title.equals("Terms") || title.startsWith("Promise ")) {
                SECTIONS.put(title.replaceFirst(":.*", ""), plain(section.substring(title.length())));
            }
        }
        for (String section : SECTIONS.keySet()) {
            NAMED.put(section, new BitSet());
        }
    }

    /** A section's lines as they stand in the document; none, when the document is not here. */
    static List<String> linesOf(String title) {
        for (String section : sections()) {
            if (titleOf(section).equals(title)) {
                return section.lines().skip(1).toList();
            }
        }
        return List.of();
    }

    private static String titleOf(String section) {
        return section.lines().findFirst().orElse("");
    }

    private static String[] sections() {
        if (!Files.isReadable(FILE)) {
            System.out.println(FILE + " is not here: nothing is compared with it");
            return new String[0];
        }
        try {
            return Files.readString(FILE).split("\n## ");
        } catch (IOException e) {
            Check.tell("the document can't be read: " + e);
            return new String[0];
        }
    }

    /** Without line ends, and without the signature with which a promise begins. */
    private static String plain(String text) {
        return text.replaceAll("\\s+", " ").trim().replaceFirst("^`[^`]*`: ", "");
    }

    /** All checks up to the next call are for these words. */
    static void terms(String words) {
        name("Terms", words);
    }

    static void promise(int number, String words) {
        name("Promise " + number, words);
    }

    private static void name(String section, String words) {
        Check.about(section + ", \"" + words + "\"");
        if (SECTIONS.isEmpty()) {
            return;
        }
        int at = SECTIONS.getOrDefault(section, "").indexOf(words);
        if (at < 0) {
            Check.tell("the document does not say so");
            return;
        }
        NAMED.get(section).set(at, at + words.length());
    }

    /** Tells every stretch of words that no test has named. */
    static void close() {
        for (Map.Entry<String, String> section : SECTIONS.entrySet()) {
            String text = section.getValue();
            BitSet named = NAMED.get(section.getKey());
            int from = named.nextClearBit(0);
            while (from < text.length()) {
                int to = named.nextSetBit(from) < 0 ? text.length() : named.nextSetBit(from);
                String left = text.substring(from, to).trim();
                if (!left.isEmpty()) {
                    Check.about(section.getKey());
                    Check.tell("no test is for \"" + left + "\"");
                }
                from = named.nextClearBit(to);
            }
        }
    }
}
