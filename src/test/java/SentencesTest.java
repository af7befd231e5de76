import java.io.IOException;
import java.nio.file.Files;
import java.nio.file.Path;
import java.util.ArrayList;
import java.util.Comparator;
import java.util.LinkedHashMap;
import java.util.List;
import java.util.Map;
import java.util.regex.Matcher;
import java.util.regex.Pattern;
import java.util.stream.Stream;

/** That no sentence of the document is left without a test that names it, but for those that ask for nothing. */
public final class SentencesTest {
    private static final Path TESTS = Path.of("src/test/java");
    private static final String LITERALS = "((?:\"[^\"]*\"[\\s+]*)+)";
    private static final Pattern NAMING =
            Pattern.compile("Check\\.sentence\\((\\w+|\"[^\"]*\"),\\s*(?:" + LITERALS + "|(\\w+))\\)");
    private static final Pattern CONSTANT = Pattern.compile("String (\\w+) = " + LITERALS + ";");
    /** What tells the reader how to read, and what is left free. */
    private static final String[] ASKING_FOR_NOTHING = {
        "---- the organ", "---- playing", "---- text", "---- what there is", "---- tuning", "---- questions", "---- states",
        "The constants:",
        "The constructor and the methods follow, a promise each: the signature, then what it does.",
        "How the state is held inside the object is free, as are the speed of each call, the text of toString and the"
            + " behaviour of equals and hashCode.",
        "Use of one object from several threads at once is not promised to be safe."};

    public static void main(String[] args) throws IOException {
        Map<String, List<String>> named = new LinkedHashMap<>();
        try (Stream<Path> files = Files.list(TESTS)) {
            for (Path file : files.filter(f -> f.toString().endsWith(".java")).sorted().toList()) {
                readNamings(Files.readString(file), named);
            }
        }
        Check.due("paragraphs and promises", Doc.parts().size(), 1 + 11 + 27 + 1);
        Check.due("lines that belong to no part: " + Doc.unread(), Doc.unread().size(), 0);
        for (Map.Entry<String, String> part : Doc.parts().entrySet()) {
            String left = leftOf(part.getValue(), named.getOrDefault(part.getKey(), List.of()));
            left = left.startsWith(part.getKey()) ? left.substring(part.getKey().length()) : left;
            boolean isNothing = left.replaceAll("[\\s\\d;:,.-]", "").isEmpty();
            Check.due(part.getKey() + ": no test names \"" + left + "\"", isNothing ? 0 : 1, 0);
        }
        Check.end();
    }

    private static void readNamings(String source, Map<String, List<String>> named) {
        Map<String, String> constants = new LinkedHashMap<>();
        Matcher constant = CONSTANT.matcher(source);
        while (constant.find()) {
            constants.put(constant.group(1), joined(constant.group(2)));
        }
        Matcher naming = NAMING.matcher(source);
        while (naming.find()) {
            String where = naming.group(1);
            String words = naming.group(2) != null ? joined(naming.group(2)) : constants.get(naming.group(3));
            String part = where.startsWith("\"") ? joined(where) : constants.get(where);
            named.computeIfAbsent(part, p -> new ArrayList<>()).add(words);
        }
    }

    private static String joined(String literals) {
        return literals.trim().replaceAll("\"\\s*\\+\\s*\"", "").replaceAll("^\"|\"$", "");
    }

    private static String leftOf(String part, List<String> named) {
        List<String> longestFirst = new ArrayList<>(named);
        longestFirst.addAll(List.of(ASKING_FOR_NOTHING));
        longestFirst.sort(Comparator.comparingInt(String::length).reversed());
        String left = part;
        for (String words : longestFirst) {
            left = left.replace(words, " ");
        }
        return left.trim();
    }
}
