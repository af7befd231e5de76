import java.io.IOException;
import java.lang.reflect.Constructor;
import java.lang.reflect.Field;
import java.lang.reflect.Method;
import java.lang.reflect.Modifier;
import java.nio.file.Files;
import java.nio.file.Path;
import java.util.ArrayList;
import java.util.List;
import java.util.Set;
import java.util.TreeSet;
import java.util.regex.Matcher;
import java.util.regex.Pattern;

/** The public face, line by line, and those rules of LANGUAGE.md that can be read off the class and its source. */
public final class FaceTest {
    private static final Set<String> METHODS = Set.of(
            "int layOut(int,int,int,int)", "int stop(int,int)", "int set(int,int)", "int cipher(int,int,boolean)",
            "int draw(int,boolean)", "int press(int,int,boolean)", "int couple(boolean,boolean)", "int tick(int)",
            "int append(int)", "int clearText()", "int faultPosition()", "int play()", "int tell(int)",
            "int chest(int,int)", "int strokes(int)", "int pipe(int,int,int)", "int reason(int,int)",
            "int tune(int,int)", "int mistuned()", "int search(int)", "int robbed(int)", "int lowest(int)",
            "int undo()", "int save(int)", "int restore(int)", "long checksum()");
    private static final Set<String> CONSTANTS = Set.of(
            "BAD_INDEX", "BAD_VALUE", "NOT_POSSIBLE", "FULL", "NONE");
    /** What the class uses of the library; rule 4 lists it. */
    private static final Set<String> LIBRARY = Set.of(
            "Integer.bitCount", "Math.floorDiv", "Math.max", "Math.min", "System.arraycopy");

    public static void main(String[] args) throws IOException {
        String source = Files.readString(Path.of("src/main/java/OrganWind.java"));
        String bare = source.replaceAll("(?s)/\\*.*?\\*/", "").replaceAll("//[^\n]*", "");
        linesOfFace(bare);
        signatures();
        constants();
        members();
        nestedClasses();
        signs(source);
        words(bare);
        library(bare);
        methodLengths(bare);
        Check.end();
    }

    /** That the source has the public lines of the document's face, these alone, in their order. */
    private static void linesOfFace(String bare) {
        List<String> due = new ArrayList<>(Doc.face());
        Check.due("closing line of the face", due.size() > 0 && due.remove(due.size() - 1).equals("}") ? 1 : 0, 1);
        Check.due("lines of the face", due.size(), 1 + 5 + 1 + 26);
        List<String> got = new ArrayList<>();
        for (String line : bare.split("\n")) {
            if (line.contains("public ")) {
                got.add(line.replaceAll("\\) \\{$", ");"));
            }
        }
        Check.due("public lines of the source", got.size(), due.size());
        for (int i = 0; i < Math.min(got.size(), due.size()); i++) {
            Check.due(got.get(i) + " is " + due.get(i), got.get(i).equals(due.get(i)) ? 1 : 0, 1);
        }
    }

    /** That the promises' signatures are those of the face, a promise each. */
    private static void signatures() {
        List<String> callable = new ArrayList<>();
        for (String line : Doc.face()) {
            if (line.endsWith(");")) {
                callable.add(line.trim().replaceAll("^public |;$", ""));
            }
        }
        List<String> promised = new ArrayList<>(Doc.signatures().values());
        Check.due("signatures are those of the face", promised.equals(callable) ? 1 : 0, 1);
        Check.due("signatures", promised.size(), 27);
    }

    private static void constants() {
        Check.due("BAD_INDEX", OrganWind.BAD_INDEX, -1000001);
        Check.due("BAD_VALUE", OrganWind.BAD_VALUE, -1000002);
        Check.due("NOT_POSSIBLE", OrganWind.NOT_POSSIBLE, -1000003);
        Check.due("FULL", OrganWind.FULL, -1000004);
        Check.due("NONE", OrganWind.NONE, -1000005);
    }

    private static boolean isOpen(int modifiers) {
        return !Modifier.isPrivate(modifiers);
    }

    private static void members() {
        Class<?> face = OrganWind.class;
        Check.due("public and final", face.getModifiers(), Modifier.PUBLIC | Modifier.FINAL);
        Set<String> methods = new TreeSet<>();
        Set<String> publicNames = new TreeSet<>();
        Set<String> privateNames = new TreeSet<>();
        for (Method m : face.getDeclaredMethods()) {
            if (m.isSynthetic()) {
                continue;
            }
            if (isOpen(m.getModifiers())) {
                Check.due(m + " is public alone", m.getModifiers(), Modifier.PUBLIC);
                methods.add(told(m));
                publicNames.add(m.getName());
            } else {
                privateNames.add(m.getName());
            }
        }
        same("methods", methods, METHODS);
        privateNames.retainAll(publicNames);
        same("private methods with public names", privateNames, Set.of());
        Set<String> constants = new TreeSet<>();
        for (Field f : face.getDeclaredFields()) {
            if (isOpen(f.getModifiers())) {
                Check.due(f + "", f.getModifiers(), Modifier.PUBLIC | Modifier.STATIC | Modifier.FINAL);
                constants.add(f.getName());
            }
        }
        same("constants", constants, CONSTANTS);
        Constructor<?>[] constructors = face.getDeclaredConstructors();
        Check.due("constructors", constructors.length, 1);
        Check.due("public constructor", constructors[0].getModifiers(), Modifier.PUBLIC);
        Check.due("its parameters", constructors[0].getParameterCount(), 0);
    }

    private static String told(Method m) {
        StringBuilder told = new StringBuilder(m.getReturnType() + " " + m.getName() + "(");
        for (Class<?> type : m.getParameterTypes()) {
            told.append(told.charAt(told.length() - 1) == '(' ? "" : ",").append(type);
        }
        return told.append(")").toString();
    }

    private static void same(String what, Set<String> got, Set<String> want) {
        if (!got.equals(want)) {
            System.out.println(what + ": " + got);
        }
        Check.due(what, got.equals(want) ? 1 : 0, 1);
    }

    private static void nestedClasses() {
        Class<?>[] nested = OrganWind.class.getDeclaredClasses();
        Check.due("few classes", nested.length <= 12 ? 1 : 0, 1);
        for (Class<?> c : nested) {
            Check.due(c + " is static", Modifier.isStatic(c.getModifiers()) ? 1 : 0, 1);
            Check.due(c + " is not public", Modifier.isPublic(c.getModifiers()) ? 1 : 0, 0);
            int fields = 0;
            for (Field f : c.getDeclaredFields()) {
                fields += Modifier.isStatic(f.getModifiers()) ? 0 : 1;
            }
            Check.due(c + " has few fields", fields <= 20 ? 1 : 0, 1);
            for (Method m : c.getDeclaredMethods()) {
                Check.due(m + " has few parameters", m.getParameterCount() <= 7 ? 1 : 0, 1);
            }
        }
    }

    private static void signs(String source) {
        for (char c : source.toCharArray()) {
            if (c > 126) {
                Check.due("sign " + (int) c, 1, 0);
            }
        }
    }

    private static void words(String bare) {
        String[] forbidden = {"\\b(throws?|try|catch|finally|synchronized|assert|import|package|instanceof)\\b",
            "->", "::", "\\b(equals|hashCode|toString)\\b", "\\b\\w+Exact\\b", "\\bstatic\\s*\\{",
            "\\b(Thread|Random|Object)\\b", "\""};
        for (String pattern : forbidden) {
            Matcher m = Pattern.compile(pattern).matcher(bare);
            Check.due("found " + pattern, m.find() ? 1 : 0, 0);
        }
    }

    /** That every name of a class is one of this file, or stands in rule 4 with just this member. */
    private static void library(String bare) {
        Set<String> used = new TreeSet<>();
        Matcher m = Pattern.compile("\\b[A-Z]\\w*[a-z]\\w*(\\.\\w+)?").matcher(bare);
        while (m.find()) {
            used.add(m.group());
        }
        used.remove("OrganWind");
        for (Class<?> own : OrganWind.class.getDeclaredClasses()) {
            used.remove(own.getSimpleName());
        }
        same("library", used, LIBRARY);
    }

    private static void methodLengths(String bare) {
        int length = 0;
        boolean inMethod = false;
        String end = "";
        for (String line : bare.split("\n")) {
            String indent = line.replaceAll("\\S.*", "");
            if (!inMethod && line.matches("\\s+[^=;]*\\) \\{") && (indent.length() == 4 || indent.length() == 8)) {
                inMethod = true;
                end = indent + "}";
                length = 0;
            }
            length++;
            if (inMethod && line.equals(end)) {
                inMethod = false;
                Check.due("a method of " + length + " lines is short", length <= 60 ? 1 : 0, 1);
            }
        }
    }
}
