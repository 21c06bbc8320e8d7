import java.lang.reflect.Constructor;
import java.lang.reflect.Field;
import java.lang.reflect.Method;
import java.lang.reflect.Modifier;
import java.nio.file.Files;
import java.nio.file.Path;
import java.util.ArrayList;
import java.util.List;
import java.util.Set;
import java.util.TreeSet;

/** The face is that of the document, and the file keeps to the rules of LANGUAGE.md that a text can show. */
public final class FaceTest {
    private static final Path SOURCE = Path.of("src/main/java/TransferHall.java");
    private static final Path DOCUMENT = Path.of("../shared/DOC.md");
    private static final String[] FORBIDDEN = {"->", "::", "Exact", "System.out", "catch", "finally", "assert ", "synchronized", "static {", "List.of", "Math.random", "nanoTime",
        "currentTimeMillis", "package ", "HashMap", "String.format", ".toString(", ".hashCode(", ".getClass("};
    private static final Set<String> IMPORTS = Set.of("import java.util.ArrayList;", "import java.util.Arrays;", "import java.util.NoSuchElementException;");

    public static void main(String[] args) throws Exception {
        face();
        onlyTheFace();
        text();
        Check.end("FaceTest");
    }

    /** The face in the document, a line each, without the word throws. */
    private static Set<String> documented() throws Exception {
        Set<String> lines = new TreeSet<>();
        for (String line : Files.readAllLines(DOCUMENT)) {
            if (line.startsWith("    public ") && line.endsWith(";")) {
                lines.add(line.trim());
            }
        }
        return lines;
    }

    private static void face() throws Exception {
        List<String> source = Files.readAllLines(SOURCE);
        Set<String> documented = documented();
        Check.due("the document has a constructor and 50 methods", 51, documented::size);
        for (String line : documented) {
            String head = line.substring(0, line.length() - 1) + " {";
            Check.due("the face has " + head, true, () -> source.stream().anyMatch(s -> s.trim().equals(head)));
        }
    }

    private static void onlyTheFace() {
        Class<?> type = TransferHall.class;
        Check.due("public and final", Modifier.PUBLIC | Modifier.FINAL, () -> type.getModifiers());
        Set<String> open = new TreeSet<>();
        int count = 0;
        for (Method one : type.getDeclaredMethods()) {
            if (Modifier.isPublic(one.getModifiers())) {
                open.add(one.getName());
                count++;
            }
        }
        int found = count;
        Check.due("public methods", 50, () -> found);
        for (Method one : type.getDeclaredMethods()) {
            boolean isPrivate = Modifier.isPrivate(one.getModifiers());
            Check.due("public or private: " + one.getName(), true, () -> isPrivate || Modifier.isPublic(one.getModifiers()));
            Check.due("a name of its own: " + one.getName(), true, () -> !isPrivate || !open.contains(one.getName()));
        }
        for (Field one : type.getDeclaredFields()) {
            Check.due("private: " + one.getName(), true, () -> Modifier.isPrivate(one.getModifiers()));
        }
        for (Constructor<?> one : type.getDeclaredConstructors()) {
            Check.due("the constructor", 0, one::getParameterCount);
        }
        List<Class<?>> inside = new ArrayList<>(List.of(type.getDeclaredClasses()));
        Check.due("at most twelve classes", true, () -> inside.size() + 1 <= 12);
        for (Class<?> one : inside) {
            Check.due("static: " + one, true, () -> Modifier.isStatic(one.getModifiers()));
            Check.due("at most twenty fields: " + one, true, () -> one.getDeclaredFields().length <= 20);
            for (Method method : one.getDeclaredMethods()) {
                Check.due("a name of its own: " + method.getName(), false, () -> open.contains(method.getName()));
            }
        }
    }

    private static void text() throws Exception {
        String text = Files.readString(SOURCE);
        for (String word : FORBIDDEN) {
            Check.due("without " + word, false, () -> text.contains(word));
        }
        Check.due("signs 1 to 127", true, () -> text.chars().allMatch(c -> c > 0 && c < 128));
        int begun = 0;
        int number = 0;
        for (String line : Files.readAllLines(SOURCE)) {
            number++;
            if (line.startsWith("import ")) {
                Check.due(line, true, () -> IMPORTS.contains(line));
            }
            if (line.matches("( {4}| {8})(public|private|static|[A-Za-z]+ ).*\\) *(throws .*)?\\{")) {
                begun = number;
            }
            if (begun > 0 && (line.equals("    }") || line.equals("        }"))) {
                int length = number - begun;
                Check.due("a short method up to line " + number, true, () -> length <= 60);
            }
        }
    }
}
