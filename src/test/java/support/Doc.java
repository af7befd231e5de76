import java.io.IOException;
import java.io.UncheckedIOException;
import java.nio.file.Files;
import java.nio.file.Path;
import java.util.LinkedHashMap;
import java.util.Map;

/** The document, cut into the parts by which tests name its sentences. */
final class Doc {
    private static final Path FILE = Path.of("../shared/DOC.md");
    /** How the paragraphs of "Description" begin; their names are these words without the last sign. */
    private static final String[] PARAGRAPHS = {
        "Stops, pipes.", "Settings,", "Pressures.", "Flows.", "Pitch.", "A tick is:", "Tests.", "The text.",
        "History.", "Errors.", "The constants:"};
    private static final Map<String, String> PARTS = read();

    private Doc() {
    }

    /** "What it is", the paragraphs of "Description", and "Promise 1" to "Promise 27", each as one line. */
    static Map<String, String> parts() {
        return PARTS;
    }

    static boolean says(String where, String words) {
        return PARTS.containsKey(where) && PARTS.get(where).contains(words);
    }

    private static Map<String, String> read() {
        Map<String, String> parts = new LinkedHashMap<>();
        String heading = "";
        String part = "";
        for (String line : lines()) {
            if (line.startsWith("#")) {
                heading = line.replaceAll("^#+ ", "").replaceAll(":.*", "");
                part = heading;
            } else if (isTold(heading, line)) {
                part = heading.equals("Description") ? paragraphOf(line, part) : heading;
                String before = parts.getOrDefault(part, "");
                parts.put(part, (before + " " + line).replaceAll("\\s+", " ").trim());
            }
        }
        return parts;
    }

    private static Iterable<String> lines() {
        try {
            return Files.readAllLines(FILE);
        } catch (IOException e) {
            throw new UncheckedIOException(e);
        }
    }

    /** Signatures and the names of groups are no sentences. */
    private static boolean isTold(String heading, String line) {
        boolean isPart = heading.matches("What it is|Description|Promise \\d+");
        return isPart && !line.isBlank() && !line.startsWith("`") && !line.startsWith("----");
    }

    private static String paragraphOf(String line, String before) {
        for (String start : PARAGRAPHS) {
            if (line.startsWith(start)) {
                return start.substring(0, start.length() - 1);
            }
        }
        return before;
    }
}
