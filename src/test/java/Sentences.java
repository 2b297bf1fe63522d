import java.nio.charset.StandardCharsets;
import java.nio.file.Files;
import java.nio.file.Paths;
import java.util.LinkedHashMap;
import java.util.Map;

/**
 * Ties tests to the words of ../shared/DOC.md: each test names the words that it is of, and in the end no words of a
 * section may be left that no test has named.
 */
final class Sentences {
    private static final Map<String, String> LEFT = new LinkedHashMap<>();
    private static String section = "";
    private static String words = "";
    private static int seenBefore = 0;

    private Sentences() {
    }

    static void read() throws Exception {
        String all = Files.readString(Paths.get("../shared/DOC.md"), StandardCharsets.UTF_8);
        for (String part : all.split("(?m)^## ")) {
            int end = part.indexOf('\n');
            String body = part.substring(Math.max(end, 0)).replaceAll("```\\w*", "").replaceAll("\\s+", " ").trim();
            // A promise's face stands ahead of its words.
            LEFT.put(part.substring(0, Math.max(end, 0)).trim(), body.replaceFirst("^`[^`]*`: ", ""));
        }
    }

    static void section(String heading) {
        closeWords();
        section = heading;
        words = "";
        Due.holds("DOC.md has " + heading, LEFT.containsKey(heading));
    }

    /** What follows is a test of these words. */
    static void says(String said) {
        closeWords();
        words = said;
        String left = LEFT.getOrDefault(section, "");
        int at = left.indexOf(said);
        Due.about(section);
        Due.holds("DOC.md says: " + said, at >= 0);
        if (at >= 0) {
            LEFT.put(section, left.substring(0, at) + "|" + left.substring(at + said.length()));
        }
        Due.about(section + ": " + said);
        seenBefore = Due.seen();
    }

    private static void closeWords() {
        if (!words.isEmpty()) {
            Due.holds("a test of these words", Due.seen() > seenBefore);
        }
    }

    static void closePromises(int first, int last) {
        for (int n = first; n <= last; n++) {
            Due.is("sections of promise " + n, close("Promise " + n + ":"), 1);
        }
    }

    /** How many sections begin so; of none of them words are left. */
    static int close(String beginning) {
        closeWords();
        words = "";
        int found = 0;
        for (Map.Entry<String, String> entry : LEFT.entrySet()) {
            if (entry.getKey().startsWith(beginning)) {
                found++;
                String left = entry.getValue().replaceAll("[|\\s]+", " ").trim();
                Due.about(entry.getKey());
                Due.holds("each of its words has a test; left: " + left, left.isEmpty());
            }
        }
        return found;
    }
}
