import java.io.IOException;
import java.nio.file.Files;
import java.nio.file.Path;
import java.util.Arrays;
import java.util.LinkedHashMap;
import java.util.Map;

/** The document's sections: what a test quotes must stand there, and no sentence may be left without a test. */
public final class Document {
    private static final Path PLACE = Path.of("..", "shared", "DOC.md");

    private final Map<String, String> texts = new LinkedHashMap<>();
    private final Map<String, boolean[]> quoted = new LinkedHashMap<>();

    private Document() {
    }

    /** Null if there is no document beside the checkout: the answers can be compared without it. */
    public static Document open() {
        try {
            return Files.exists(PLACE) ? of(Files.readString(PLACE)) : null;
        } catch (IOException e) {
            return null;
        }
    }

    private static Document of(String whole) {
        Document document = new Document();
        for (String part : whole.split("(?m)^## ")) {
            String[] halves = part.split("\n", 2);
            String name = halves[0].split(":")[0].trim();
            String text = plain(halves.length < 2 ? "" : halves[1]);
            document.texts.put(name, text);
            document.quoted.put(name, new boolean[text.length()]);
        }
        return document;
    }

    // Without fences, and without its lines' ends, so that a quote may go over several lines.
    private static String plain(String text) {
        return text.replaceAll("(?m)^```.*$", "").replaceAll("\\s+", " ").trim();
    }

    public boolean quote(String section, String words) {
        String text = texts.getOrDefault(section, "");
        boolean found = false;
        for (int at = text.indexOf(words); at >= 0; at = text.indexOf(words, at + 1)) {
            Arrays.fill(quoted.get(section), at, at + words.length(), true);
            found = true;
        }
        return found;
    }

    /** What no test has quoted of a section, or an empty text. */
    public String rest(String section) {
        String text = texts.getOrDefault(section, "there is no such section");
        boolean[] seen = quoted.getOrDefault(section, new boolean[text.length()]);
        StringBuilder rest = new StringBuilder();
        for (int i = 0; i < text.length(); i++) {
            rest.append(seen[i] ? ' ' : text.charAt(i));
        }
        return rest.toString().replaceAll("\\s+", " ").trim();
    }
}
