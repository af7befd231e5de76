import java.io.IOException;
import java.nio.file.Files;
import java.nio.file.Path;
import java.util.ArrayList;
import java.util.Comparator;
import java.util.LinkedHashMap;
import java.util.List;
import java.util.Map;
import java.util.regex.Matcher;
import java.util.regex.Pattern;
import java.util.stream.Stream;

/** That no sentence of the document is left without a test that names it, but for those that name no boundary. */
public final class SentencesTest {
    private static final Path TESTS = Path.of("src/test/java");
    private static final String LITERALS = "((?:\"[^\"]*\"[\\s+]*)+)";
    private static final Pattern NAMING =
            Pattern.compile("Check\\.sentence\\((\\w+|\"[^\"]*\"),\\s*(?:" + LITERALS + "|(\\w+))\\)");
    private static final Pattern CONSTANT = Pattern.compile("String (\\w+) = " + LITERALS + ";");
    /** What tells the reader how to read, and what is left free. */
    private static final String[] WITHOUT_BOUNDARY = {
        "The wind of an organ. Stops are drawn and keys are pressed on two manuals, with couplers; pipes that are open"
            + " take wind from their chest and rob each other of pressure; a pipe speaks only with enough of it, and its"
            + " pitch goes with it. A reservoir is filled by the strokes of two feeders. Pipes that cipher sound without"
            + " a key and are found by tests; pipes are tuned; music is read from texts; it is told why a pipe does not"
            + " speak; all wind is accounted for.",
        "; what later calls answer is free.",
        "The constants:",
        "The constructor and the methods follow, a promise each: the signature, then what it does."};

    public static void main(String[] args) throws IOException {
        Map<String, List<String>> named = new LinkedHashMap<>();
        try (Stream<Path> files = Files.list(TESTS)) {
            for (Path file : files.filter(f -> f.toString().endsWith(".java")).sorted().toList()) {
                readNamings(Files.readString(file), named);
            }
        }
        Check.due("paragraphs and promises", Doc.parts().size(), 1 + 11 + 27);
        for (Map.Entry<String, String> part : Doc.parts().entrySet()) {
            String left = leftOf(part.getValue(), named.getOrDefault(part.getKey(), List.of()));
            left = left.startsWith(part.getKey()) ? left.substring(part.getKey().length()) : left;
            boolean isNothing = left.replaceAll("[\\s\\d;:,.-]", "").isEmpty();
            Check.due(part.getKey() + ": no test names \"" + left + "\"", isNothing ? 0 : 1, 0);
        }
        Check.end();
    }

    private static void readNamings(String source, Map<String, List<String>> named) {
        Map<String, String> constants = new LinkedHashMap<>();
        Matcher constant = CONSTANT.matcher(source);
        while (constant.find()) {
            constants.put(constant.group(1), joined(constant.group(2)));
        }
        Matcher naming = NAMING.matcher(source);
        while (naming.find()) {
            String where = naming.group(1);
            String words = naming.group(2) != null ? joined(naming.group(2)) : constants.get(naming.group(3));
            String part = where.startsWith("\"") ? joined(where) : constants.get(where);
            named.computeIfAbsent(part, p -> new ArrayList<>()).add(words);
        }
    }

    private static String joined(String literals) {
        return literals.trim().replaceAll("\"\\s*\\+\\s*\"", "").replaceAll("^\"|\"$", "");
    }

    private static String leftOf(String part, List<String> named) {
        List<String> longestFirst = new ArrayList<>(named);
        longestFirst.addAll(List.of(WITHOUT_BOUNDARY));
        longestFirst.sort(Comparator.comparingInt(String::length).reversed());
        String left = part;
        for (String words : longestFirst) {
            left = left.replace(words, " ");
        }
        return left.trim();
    }
}
