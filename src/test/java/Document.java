import java.io.IOException;
import java.nio.file.Files;
import java.nio.file.Path;
import java.util.ArrayList;
import java.util.LinkedHashMap;
import java.util.List;
import java.util.Map;

/** The text of ../shared/DOC.md by its headings, so that a test can say which sentence of it it holds. */
final class Document {
    private static final Path FILE = Path.of("../shared/DOC.md");

    private final Map<String, String> sections = new LinkedHashMap<>();

    static Document read() throws IOException {
        Document document = new Document();
        if (!Files.exists(FILE)) {
            return document;
        }
        String heading = "";
        StringBuilder text = new StringBuilder();
        for (String line : Files.readAllLines(FILE)) {
            if (line.startsWith("## ") || line.startsWith("== ")) {
                document.sections.put(heading, plain(text.toString()));
                heading = line.substring(3).trim();
                text.setLength(0);
            } else {
                text.append(line).append('\n');
            }
        }
        document.sections.put(heading, plain(text.toString()));
        return document;
    }

    boolean isThere() {
        return !sections.isEmpty();
    }

    /** Headings are found by how they begin: "Promise 2" is none of "Promise 21: many". */
    boolean says(String heading, String sentence) {
        for (Map.Entry<String, String> section : sections.entrySet()) {
            boolean named = section.getKey().equals(heading) || section.getKey().startsWith(heading + ":");
            if (named && section.getValue().contains(plain(sentence))) {
                return true;
            }
        }
        return false;
    }

    /** What each promise throws: the heading's beginning, and the sentence. */
    List<String[]> refusals() throws IOException {
        List<String[]> found = new ArrayList<>();
        String heading = "";
        for (String line : isThere() ? Files.readAllLines(FILE) : List.<String>of()) {
            if (line.startsWith("## ")) {
                heading = line.substring(3).replaceAll(":.*", "");
            } else if (line.startsWith("Throws ")) {
                found.add(new String[] {heading, plain(line)});
            }
        }
        return found;
    }

    static String plain(String text) {
        return text.replace("`", "").replaceAll("\\s+", " ").trim();
    }
}
