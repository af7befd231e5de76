import java.io.IOException;
import java.io.UncheckedIOException;
import java.nio.file.Files;
import java.nio.file.Path;
import java.util.ArrayList;
import java.util.LinkedHashMap;
import java.util.List;
import java.util.Map;

/** The document, from its first line to its last, cut into the parts by which tests name its sentences. */
final class Doc {
    private static final Path FILE = Path.of("../shared/DOC.md");
    private static final String FACE = "The public face";
    /** How the paragraphs of "Description" begin; their names are these words without the last sign. */
    private static final String[] PARAGRAPHS = {
        "Stops, pipes.", "Settings,", "Pressures.", "Flows.", "Pitch.", "A tick is:", "Tests.", "The text.",
        "History.", "Errors.", "The constants:"};
    private static final Map<String, String> PARTS = new LinkedHashMap<>();
    private static final List<String> FACE_LINES = new ArrayList<>();
    private static final Map<String, String> SIGNATURES = new LinkedHashMap<>();
    private static final List<String> UNREAD = new ArrayList<>();

    static {
        read();
    }

    private Doc() {
    }

    /** "What it is", the paragraphs of "Description", "Promise 1" to "27" and "Not promised", each as one line. */
    static Map<String, String> parts() {
        return PARTS;
    }

    /** The lines of code of "The public face", as they stand there. */
    static List<String> face() {
        return FACE_LINES;
    }

    /** The signature that each promise begins with. */
    static Map<String, String> signatures() {
        return SIGNATURES;
    }

    /** Lines that belong to nothing of these, blank ones and headings aside. */
    static List<String> unread() {
        return UNREAD;
    }

    static boolean says(String where, String words) {
        return PARTS.containsKey(where) && PARTS.get(where).contains(words);
    }

    private static void read() {
        String heading = "";
        String part = "";
        for (String line : lines()) {
            if (line.startsWith("#")) {
                heading = line.replaceAll("^#+ ", "").replaceAll(":.*", "");
                part = heading;
            } else if (isTold(heading, line)) {
                part = heading.equals("Description") ? paragraphOf(line, part) : heading;
                String before = PARTS.getOrDefault(part, "");
                PARTS.put(part, (before + " " + line).replaceAll("\\s+", " ").trim());
            } else {
                keepCode(heading, line);
            }
        }
    }

    private static List<String> lines() {
        try {
            return Files.readAllLines(FILE);
        } catch (IOException e) {
            throw new UncheckedIOException(e);
        }
    }

    /** Signatures are no sentences. */
    private static boolean isTold(String heading, String line) {
        boolean isPart = heading.matches("What it is|Description|Promise \\d+|Not promised");
        return isPart && !line.isBlank() && !line.startsWith("`");
    }

    private static void keepCode(String heading, String line) {
        boolean isFence = heading.equals(FACE) && line.startsWith("```");
        if (line.isBlank() || isFence) {
            return;
        }
        if (heading.equals(FACE)) {
            FACE_LINES.add(line);
        } else if (heading.startsWith("Promise ") && line.matches("`.*`")) {
            SIGNATURES.put(heading, line.substring(1, line.length() - 1));
        } else {
            UNREAD.add(line);
        }
    }

    private static String paragraphOf(String line, String before) {
        for (String start : PARAGRAPHS) {
            if (line.startsWith(start)) {
                return start.substring(0, start.length() - 1);
            }
        }
        return before;
    }
}
