import java.io.IOException;
import java.nio.file.Files;
import java.nio.file.Path;
import java.util.ArrayList;
import java.util.LinkedHashMap;
import java.util.List;
import java.util.Map;

/**
 * Tests that bear the document's own words as their names, so that the sentence of each can be found:
 * the section's heading as far as its number, then words that stand there.
 */
final class Says {
    private static final Path DOCUMENT = Path.of("../shared/DOC.md");

    private static String now = "";
    private static int count;
    private static final Map<String, List<String>> quotes = new LinkedHashMap<>();

    private Says() {
    }

    static void says(String section, String words, Runnable test) {
        count++;
        quotes.computeIfAbsent(section, s -> new ArrayList<>()).add(words);
        now = section + " says '" + words + "': ";
        int askedBefore = Due.asked();
        int wrongBefore = Due.wrong();
        try {
            test.run();
        } catch (RuntimeException e) {
            // The sentences behind this one are still to be tried.
            Due.holds(now + e.getMessage(), false);
        }
        Due.holds(now + "something is asked", Due.asked() > askedBefore);
        // Said for each sentence, as wrong answers are shown only up to a number.
        if (Due.wrong() > wrongBefore) System.out.println("  BROKEN: " + section + " says '" + words + "'");
        now = "";
    }

    /** The name of the test that runs. */
    static String now() {
        return now;
    }

    /** The words of each test are the document's, and no piece of what it promises is without a test. */
    static void lookUp() throws IOException {
        System.out.println("  " + count + " sentences");
        if (!Files.exists(DOCUMENT)) {
            System.out.println("  " + DOCUMENT + " is not here: the words were not looked up");
            return;
        }
        Map<String, String> sections = sections(Files.readString(DOCUMENT));
        for (Map.Entry<String, List<String>> entry : quotes.entrySet()) {
            String text = sections.getOrDefault(entry.getKey(), "");
            for (String words : entry.getValue()) Due.holds(entry.getKey() + " has the words '" + words + "'", text.contains(words));
        }
        for (Map.Entry<String, String> entry : sections.entrySet()) {
            if (entry.getKey().matches("What it is|Terms|Promise \\d+")) piecesHaveTests(entry.getKey(), entry.getValue());
        }
    }

    /** The text of each section, without its heading and a call's head, all blanks alike. */
    private static Map<String, String> sections(String document) {
        Map<String, String> found = new LinkedHashMap<>();
        for (String part : document.split("\n## ")) {
            String[] headAndText = part.split("\n", 2);
            String text = headAndText.length < 2 ? "" : headAndText[1].replaceAll("\\s+", " ").trim();
            found.put(headAndText[0].replaceAll(":.*", ""), text.replaceFirst("^`[^`]*`: ", ""));
        }
        return found;
    }

    private static void piecesHaveTests(String section, String text) {
        List<String> tested = quotes.getOrDefault(section, List.of());
        int start = 0;
        // A dot of ".." ends nothing.
        for (String piece : text.split("(?<=[^. ][.:;]) ")) {
            int from = start, to = start + piece.length();
            boolean has = tested.stream().anyMatch(words -> touches(text, words, from, to));
            Due.holds(section + " has a test of '" + piece + "'", has);
            start = to + 1;
        }
    }

    private static boolean touches(String text, String words, int from, int to) {
        for (int at = text.indexOf(words); at >= 0; at = text.indexOf(words, at + 1)) {
            if (at < to && at + words.length() > from) return true;
        }
        return false;
    }
}
