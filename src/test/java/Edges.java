import java.io.IOException;
import java.io.UncheckedIOException;
import java.nio.file.Files;
import java.nio.file.Path;
import java.util.LinkedHashMap;
import java.util.Map;
import java.util.function.Consumer;

/**
 * Tests that stand under the sentence of the document that each of them is of. A sentence must stand
 * in its section word by word, and at the end no word of an opened section may be without a test.
 */
abstract class Edges extends Hand {
    private static final Path DOC = Path.of("../shared/DOC.md");
    private static final Map<String, String> TEXTS = texts();
    private static final Map<String, boolean[]> QUOTED = new LinkedHashMap<>();

    private static String section = "";

    /** From here on the sentences are those of this section: "Promise 4", "Terms", "Terms 2". */
    static void section(String name) {
        section = name;
        isTrue("the document has a section " + name, TEXTS.containsKey(name));
        QUOTED.putIfAbsent(name, new boolean[TEXTS.getOrDefault(name, "").length()]);
    }

    /** A sentence and its test, on a new object. */
    static void edge(String sentence, Consumer<Used> test) {
        about = section + ", \"" + sentence + "\"";
        isTrue("the sentence stands in the document", quote(sentence));
        int asked = Check.asked();
        test.accept(new Used());
        isTrue("something was asked", Check.asked() > asked);
    }

    static void end(String test) {
        for (Map.Entry<String, boolean[]> e : QUOTED.entrySet()) {
            about = e.getKey();
            isTrue("no test of: " + unquoted(TEXTS.get(e.getKey()), e.getValue()),
                    unquoted(TEXTS.get(e.getKey()), e.getValue()).isEmpty());
        }
        Check.end(test);
    }

    static void isTrue(String what, boolean is) {
        due(what, is ? 1 : 0, 1);
    }

    private static boolean quote(String sentence) {
        String text = TEXTS.getOrDefault(section, "");
        boolean[] quoted = QUOTED.get(section);
        boolean found = false;
        for (int at = text.indexOf(sentence); at >= 0; at = text.indexOf(sentence, at + 1)) {
            java.util.Arrays.fill(quoted, at, at + sentence.length(), true);
            found = true;
        }
        return found;
    }

    private static String unquoted(String text, boolean[] quoted) {
        StringBuilder b = new StringBuilder();
        for (int i = 0; i < text.length(); i++) {
            b.append(quoted[i] ? ' ' : text.charAt(i));
        }
        return b.toString().trim();
    }

    /** Each section's words with single spaces; a promise without its signature. */
    private static Map<String, String> texts() {
        Map<String, String> texts = new LinkedHashMap<>();
        for (String part : read().split("(?m)^## ")) {
            int lineEnd = part.indexOf('\n');
            String title = lineEnd < 0 ? part : part.substring(0, lineEnd);
            String body = lineEnd < 0 ? "" : part.substring(lineEnd);
            if (title.equals("Terms")) {
                String[] terms = body.replaceAll("(?m)^(```.*|Ahead of the calls .*)$", "").split("(?m)^==== \\d");
                for (int i = 0; i < terms.length; i++) {
                    texts.put(i == 0 ? title : title + " " + i, folded(terms[i]));
                }
            } else {
                texts.put(title.replaceAll(":.*", ""), folded(body).replaceAll("^`[^`]*`: ", ""));
            }
        }
        return texts;
    }

    private static String folded(String text) {
        return text.replaceAll("\\s+", " ").trim();
    }

    private static String read() {
        try {
            return Files.readString(DOC);
        } catch (IOException e) {
            throw new UncheckedIOException(e);
        }
    }
}
