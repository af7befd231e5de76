import java.io.IOException;
import java.nio.file.Files;
import java.nio.file.Path;
import java.nio.file.StandardCopyOption;
import java.util.ArrayList;
import java.util.Comparator;
import java.util.List;
import java.util.regex.Matcher;
import java.util.regex.Pattern;
import java.util.stream.Stream;

/** What README.md says: its examples answer as it tells, and its commands do what it says of them. */
public final class ReadmeTest {
    private static final String CLASS = "src/main/java/OrganWind.java";
    private static final Pattern BLOCK = Pattern.compile("```(\\w+)\n(.*?)\n```", Pattern.DOTALL);
    private static final Pattern ANSWERED =
            Pattern.compile("(organ\\.\\w+\\(.*\\)); +// (-?\\d+|[A-Z_]+)(: \\S.*)?");
    /** A test that tells that it has run, and ends as its form wants. */
    private static final String TEST = "public final class NAME { public static void main(String[] args) {"
            + " System.out.println(\"NAME tells \" + new OrganWind().tell(0)); System.exit(EXIT); } }\n";

    private final List<String> javaBlocks = new ArrayList<>();
    private final List<String> shellBlocks = new ArrayList<>();
    private final List<String> textBlocks = new ArrayList<>();
    private final String readme;
    private final Path room;

    private ReadmeTest(Path room) throws IOException {
        this.room = room;
        readme = Files.readString(Path.of("README.md"));
        Matcher block = BLOCK.matcher(readme);
        while (block.find()) {
            List<String> kind = switch (block.group(1)) {
                case "java" -> javaBlocks;
                case "sh" -> shellBlocks;
                default -> textBlocks;
            };
            kind.add(block.group(2));
        }
    }

    public static void main(String[] args) throws IOException, InterruptedException {
        Path room = Files.createTempDirectory("readme");
        try {
            ReadmeTest test = new ReadmeTest(room);
            test.blocks();
            test.program();
            test.examples();
            test.calls();
            test.oneTestAlone();
            test.commandForTests();
            test.namesOfTests();
        } finally {
            empty(room);
        }
        Check.end();
    }

    private static void empty(Path room) throws IOException {
        try (Stream<Path> files = Files.walk(room)) {
            for (Path file : files.sorted(Comparator.reverseOrder()).toList()) {
                Files.delete(file);
            }
        }
    }

    private void blocks() {
        Check.due("a program and seven examples", javaBlocks.size(), 1 + 7);
        Check.due("two commands for use, one for all tests, two for one test", shellBlocks.size(), 3);
        Check.due("what the program prints", textBlocks.size(), 1);
    }

    // ---- how to use it

    private void program() throws IOException, InterruptedException {
        Path main = copyOfProject("use");
        Files.writeString(main.resolve("Example.java"), javaBlocks.get(0) + "\n");
        Ended ended = carryOut(main, shellBlocks.get(0));
        ended.due("the program", 0);
        told("what the program prints", ended.printed.trim(), textBlocks.get(0));
    }

    /** Asks each call of the examples in their order and holds its answer against the one that is told behind it. */
    private void examples() throws IOException, InterruptedException {
        StringBuilder source = new StringBuilder("public final class Examples {\n");
        int answers = 0;
        for (int i = 1; i < javaBlocks.size(); i++) {
            source.append("static void example").append(i).append("() {\n");
            for (String line : javaBlocks.get(i).split("\n")) {
                Matcher answered = ANSWERED.matcher(line);
                boolean isAnswered = answered.matches();
                Check.due("an answer is told: " + line, line.startsWith("organ.") == isAnswered ? 1 : 0, 1);
                source.append(isAnswered ? question(answered, i) : line).append("\n");
                answers += isAnswered ? 1 : 0;
            }
            source.append("}\n");
        }
        source.append("public static void main(String[] args) {\n");
        for (int i = 1; i < javaBlocks.size(); i++) {
            source.append("example").append(i).append("();\n");
        }
        source.append("Check.end();\n}\n}\n");
        Path main = copyOfProject("examples");
        Files.writeString(main.resolve("Examples.java"), source);
        Ended ended = carryOut(main, "javac -d build " + CLASS + " src/test/java/support/*.java Examples.java\n"
                + "java -cp build Examples");
        ended.due("the examples", 0);
        told("the examples", ended.printed.trim(), answers + " answers, 0 not as due");
    }

    private static String question(Matcher answered, int example) {
        String answer = answered.group(2);
        boolean isConstant = Character.isLetter(answer.charAt(0));
        String due = isConstant ? "OrganWind." + answer : answer + "L";
        String call = "README.md, example " + example + ", " + answered.group(1);
        return "Check.due(\"" + call.replace("\"", "'") + "\", " + answered.group(1) + ", " + due + ");";
    }

    /** That each call of the face stands in an example and, as the document names it, in the table. */
    private void calls() {
        String examples = String.join("\n", javaBlocks);
        for (String part : Doc.signatures().keySet()) {
            String bare = Doc.signatures().get(part).replaceAll("^(int|long) |(?<=\\(|, )(int|boolean) ", "");
            String name = bare.substring(0, bare.indexOf('('));
            boolean isShown = examples.contains("organ." + name + "(") || examples.contains("new " + name + "(");
            Check.due(name + " is in an example", isShown ? 1 : 0, 1);
            String row = "\\| `" + Pattern.quote(bare) + "` \\| [^|]+ \\| " + part.replace("Promise ", "") + " \\|";
            Check.due(bare + " is in the table", Pattern.compile(row).matcher(readme).find() ? 1 : 0, 1);
        }
        for (String constant : new String[] {"BAD_INDEX", "BAD_VALUE", "NOT_POSSIBLE", "FULL", "NONE"}) {
            Check.due(constant + " is told", readme.contains("`" + constant + "` (") ? 1 : 0, 1);
        }
    }

    // ---- how to run its tests

    private void oneTestAlone() throws IOException, InterruptedException {
        Ended ended = carryOut(copyOfProject("one"), shellBlocks.get(2));
        ended.due("one test", 0);
        Check.due("it has run: " + ended.printed, ended.printed.contains(" answers, 0 not as due") ? 1 : 0, 1);
    }

    /** That the command runs the tests of both places, and fails if one fails, is missing or can't be compiled. */
    private void commandForTests() throws IOException, InterruptedException {
        Ended good = tested("good", test("Given", 0), test("Own", 0));
        good.due("good tests", 0);
        Check.due("the one under ../shared/tests runs", good.printed.contains("Given tells 3000") ? 1 : 0, 1);
        Check.due("the one of the project runs", good.printed.contains("Own tells 3000") ? 1 : 0, 1);
        tested("given", test("Given", 1), test("Own", 0)).due("a given one fails", 1);
        tested("own", test("Given", 0), test("Own", 1)).due("an own one fails", 1);
        tested("both", test("Given", 3), test("Own", 1)).due("both fail", 1);
        tested("noJava", "class Given {", test("Own", 0)).due("a given one is no Java", 1);
        tested("noJava2", test("Given", 0), "class Own {").due("an own one is no Java", 1);
        tested("noGiven", "", test("Own", 0)).due("there is no given one", 1);
        tested("noOwn", test("Given", 0), "").due("there is no own one", 1);
    }

    private static String test(String name, int exit) {
        return TEST.replace("NAME", name).replace("EXIT", "" + exit);
    }

    /** Carries out the command in a small project with a test in each place (empty: none), beside a shared directory. */
    private Ended tested(String name, String given, String own) throws IOException, InterruptedException {
        Path main = room.resolve(name).resolve("main");
        copy(Path.of(CLASS), main.resolve(CLASS));
        copy(Path.of(".ci/run"), main.resolve(".ci/run"));
        Path shared = Files.createDirectories(room.resolve(name).resolve("shared/tests"));
        Path support = Files.createDirectories(main.resolve("src/test/java/support"));
        Files.writeString(support.resolve("Helper.java"), "final class Helper { }\n");
        if (!given.isEmpty()) {
            Files.writeString(shared.resolve("Given.java"), given);
        }
        if (!own.isEmpty()) {
            Files.writeString(main.resolve("src/test/java/Own.java"), own);
        }
        // Some machines let no script be carried out in their temporary directory, unless sh reads it.
        boolean isAllowed = Files.isExecutable(main.resolve(".ci/run"));
        return carryOut(main, (isAllowed ? "" : "sh ") + shellBlocks.get(1));
    }

    /** That the list of tests leaves none out and names none that is not there. */
    private void namesOfTests() throws IOException {
        List<String> names = new ArrayList<>();
        Matcher item = Pattern.compile("\n- `([\\w*]+)\\.java`:").matcher(readme);
        while (item.find()) {
            names.add(item.group(1).replace("*", "\\w*"));
        }
        List<String> tests = new ArrayList<>();
        try (Stream<Path> files = Files.list(Path.of("src/test/java"))) {
            files.map(f -> f.getFileName().toString()).filter(f -> f.endsWith(".java")).forEach(tests::add);
        }
        for (String test : tests) {
            boolean isNamed = names.stream().anyMatch(n -> test.matches(n + "\\.java"));
            Check.due(test + " is named", isNamed ? 1 : 0, 1);
        }
        for (String name : names) {
            boolean isThere = tests.stream().anyMatch(t -> t.matches(name + "\\.java"));
            Check.due(name + " is there", isThere ? 1 : 0, 1);
        }
        Check.due("tests are named", names.isEmpty() ? 0 : 1, 1);
    }

    // ---- what several of them use

    private Path copyOfProject(String name) throws IOException {
        Path main = room.resolve(name).resolve("main");
        try (Stream<Path> files = Files.walk(Path.of("src"))) {
            for (Path file : files.filter(Files::isRegularFile).toList()) {
                copy(file, main.resolve(file));
            }
        }
        copy(Path.of("../shared/DOC.md"), room.resolve(name).resolve("shared/DOC.md"));
        return main;
    }

    private static void copy(Path from, Path to) throws IOException {
        Files.createDirectories(to.getParent());
        Files.copy(from, to, StandardCopyOption.COPY_ATTRIBUTES);
    }

    private record Ended(int code, String printed, String complaints) {
        void due(String what, int want) {
            Check.due(what + (code == want ? "" : ", which printed\n" + printed + complaints + "and"), code, want);
        }
    }

    /** Carries out commands in a directory; the first one that fails is the last one. */
    private Ended carryOut(Path directory, String commands) throws IOException, InterruptedException {
        Path complaints = room.resolve("complaints.txt");
        Process process = new ProcessBuilder("sh", "-e", "-c", commands)
                .directory(directory.toFile()).redirectError(complaints.toFile()).start();
        process.getOutputStream().close();
        String printed = new String(process.getInputStream().readAllBytes());
        int code = process.waitFor();
        return new Ended(code, printed, Files.readString(complaints));
    }

    private static void told(String what, String got, String want) {
        Check.due(what + ": \"" + got + "\" is \"" + want + "\"", got.equals(want) ? 1 : 0, 1);
    }
}
