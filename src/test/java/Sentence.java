import java.io.IOException;
import java.nio.file.Files;
import java.nio.file.Path;
import java.util.ArrayList;
import java.util.LinkedHashMap;
import java.util.List;
import java.util.Map;

/**
 * The document's own words: a test names the words it holds, these must stand in the document as quoted, and
 * at the end every word of the document must stand in some test's quote (the promises' heads are looked at as such).
 */
final class Sentence {
    static final String TERMS = "Terms";
    static final int PROMISES = 38;
    private static final Path DOC = Path.of("../shared/DOC.md");
    private static final Map<String, String> BODIES = new LinkedHashMap<>();
    private static final Map<String, boolean[]> QUOTED = new LinkedHashMap<>();
    private static final List<String> HEADS = new ArrayList<>();

    private Sentence() { }

    /** Without the document the answers alone are looked at. */
    static void load() throws IOException {
        if (!Files.isReadable(DOC)) {
            System.out.println("no " + DOC + " here: quotes are not looked at");
            return;
        }
        for (String part : Files.readString(DOC).split("\n## ")) {
            String section = part.substring(0, part.indexOf('\n') < 0 ? part.length() : part.indexOf('\n'));
            String body = part.substring(section.length());
            if (section.startsWith("Promise ")) {
                int number = Integer.parseInt(section.substring(8, section.indexOf(':')));
                keep("Promise " + number, body.substring(body.indexOf("`:") + 2));
                HEADS.add(body.substring(body.indexOf('`') + 1, body.indexOf("`:")));
            } else if (!section.startsWith("# ")) {
                keep(section, body.replace("```text", " ").replace("```java", " ").replace("```", " "));
            }
        }
    }

    private static void keep(String section, String body) {
        String plain = body.replaceAll("\\s+", " ");
        BODIES.put(section, plain);
        QUOTED.put(section, new boolean[plain.length()]);
    }

    static void ofTerms(String words) { of(TERMS, words); }

    static void ofPromise(int number, String words) { of("Promise " + number, words); }

    /** A section's words, blanks drawn together; none if the document is not here or has no such section. */
    static String bodyOf(String section) { return BODIES.getOrDefault(section, ""); }

    /** Of each promise what stands ahead of its words: the constructor or the method that it tells of. */
    static List<String> heads() { return HEADS; }

    static void of(String section, String words) {
        Check.label(section + " \"" + words + "\"");
        if (BODIES.isEmpty()) return;
        int at = bodyOf(section).indexOf(words);
        Check.due("the document says so", at >= 0, true);
        for (int k = 0; at >= 0 && k < words.length(); k++) QUOTED.get(section)[at + k] = true;
    }

    static void allQuoted() {
        Check.label("");
        for (Map.Entry<String, String> entry : BODIES.entrySet()) {
            boolean[] quoted = QUOTED.get(entry.getKey());
            StringBuilder left = new StringBuilder();
            for (int k = 0; k < quoted.length; k++) {
                boolean word = Character.isLetterOrDigit(entry.getValue().charAt(k));
                if (!quoted[k] && (word || left.length() > 0)) left.append(entry.getValue().charAt(k));
            }
            Check.due("words of " + entry.getKey() + " that no test quotes: " + left.toString().trim(), left.toString().isBlank(), true);
        }
        if (!BODIES.isEmpty()) Check.due("sections", BODIES.size(), PROMISES + 4);
    }
}
