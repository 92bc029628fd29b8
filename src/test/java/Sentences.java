import java.io.IOException;
import java.nio.file.Files;
import java.nio.file.Path;
import java.util.LinkedHashMap;
import java.util.Map;

/** Due answers, each told under the words of the document that it is about; words that none is about are missed. */
final class Sentences {
    private static final String TERMS = "Terms";

    private final Checks checks = new Checks();
    private final Map<String, String> texts = new LinkedHashMap<>();
    private final Map<String, boolean[]> named = new LinkedHashMap<>();
    private String about = "";
    private boolean hasAnswer = true;

    Sentences(Path document) throws IOException {
        for (String section : Files.readString(document).split("(?m)^## ")) {
            int end = section.indexOf('\n');
            String name = section.substring(0, end).replaceAll(":.*", "").trim();
            String text = plain(section.substring(end));
            texts.put(name, text);
            named.put(name, new boolean[text.length()]);
        }
    }

    // Fences and marks of sections say nothing that binds.
    private static String plain(String section) {
        return section.replaceAll("(?m)^```.*$", " ").replaceAll("={8} \\d", " ").replaceAll("\\s+", " ").trim();
    }

    /** What the document says in a section, its lines joined. */
    String text(String section) {
        return texts.getOrDefault(section, "");
    }

    void term(String words) {
        name(TERMS, words);
    }

    void promise(int number, String words) {
        name("Promise " + number, words);
    }

    /** The answers from here on are about these words. */
    void name(String section, String words) {
        endSentence();
        about = section + ", \"" + words + "\": ";
        hasAnswer = false;
        int from = text(section).indexOf(words);
        checks.isTrue(about + "the document says so", from >= 0);
        for (int k = 0; from >= 0 && k < words.length(); k++) {
            named.get(section)[from + k] = true;
        }
    }

    void due(String what, long got, long want) {
        hasAnswer = true;
        checks.due(about + what, got, want);
    }

    void isTrue(String what, boolean holds) {
        due(what, holds ? 1 : 0, 1);
    }

    private void endSentence() {
        checks.isTrue(about + "an answer is held against it", hasAnswer);
    }

    void end() {
        endSentence();
        int promises = 0;
        for (String section : texts.keySet()) {
            promises += section.startsWith("Promise ") ? 1 : 0;
            String missed = bindsNothing(section) ? "" : notNamed(section);
            checks.isTrue(section + ": words that no test names: " + missed, missed.isEmpty());
        }
        checks.due("promises in the document", promises, 26);
        checks.end();
    }

    // The document's title is a section, too, of no words.
    private static boolean bindsNothing(String section) {
        return section.equals("Not promised") || section.startsWith("#");
    }

    private String notNamed(String section) {
        StringBuilder rest = new StringBuilder();
        for (int k = 0; k < texts.get(section).length(); k++) {
            rest.append(named.get(section)[k] ? ' ' : texts.get(section).charAt(k));
        }
        String words = rest.toString().replaceAll("\\s+", " ").trim();
        return words.matches(".*\\w.*") ? words : "";
    }
}
