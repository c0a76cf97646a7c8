import java.io.IOException;
import java.lang.reflect.Constructor;
import java.lang.reflect.Field;
import java.lang.reflect.Method;
import java.lang.reflect.Modifier;
import java.nio.file.Files;
import java.nio.file.Path;
import java.util.HashSet;
import java.util.List;
import java.util.Set;
import java.util.regex.Matcher;
import java.util.regex.Pattern;

/** The face and the rules of LANGUAGE.md, as far as they can be seen without judgement. */
public final class SourceTest {
    private static final Path DOCUMENT = Path.of("../shared/DOC.md");

    public static void main(String[] args) throws IOException {
        List<String> lines = Files.readAllLines(Path.of("src/main/java/Meshquiver.java"));
        face();
        inside();
        heads(lines);
        groups(lines);
        document();
        text(lines);
        Check.finish();
    }

    private static void face() {
        Class<?> type = Meshquiver.class;
        Check.isTrue("public and final", Modifier.isPublic(type.getModifiers()) && Modifier.isFinal(type.getModifiers()));
        Constructor<?>[] made = type.getDeclaredConstructors();
        Check.isTrue("one constructor", made.length == 1 && Modifier.isPublic(made[0].getModifiers()));
        Set<String> due = new HashSet<>(Face.names());
        Set<String> found = new HashSet<>();
        for (Method method : type.getDeclaredMethods()) {
            if (Modifier.isPrivate(method.getModifiers())) {
                Check.isTrue("private, and not of the face: " + method, !due.contains(method.getName()));
            } else {
                Check.isTrue("of the face, and public: " + method,
                        due.contains(method.getName()) && Modifier.isPublic(method.getModifiers()));
                Check.isTrue("once: " + method, found.add(method.getName()));
            }
        }
        Check.due("all of the face", () -> found.size(), due.size());
        Check.due("54 promises, less the constructor", () -> due.size(), 53);
    }

    /** Each line of the face stands in the class: what is answered, taken and thrown, in its order. */
    private static void heads(List<String> lines) {
        String source = String.join(" ", lines).replaceAll("\\s+", " ");
        for (String line : Face.LINES) {
            String head = line.substring(0, line.length() - 1) + " {";
            int at = source.indexOf(head);
            Check.isTrue("as the document has it: " + line, at >= 0);
            Check.isTrue("once: " + line, source.indexOf(head, at + 1) < 0);
        }
        Check.isTrue("public and final, by itself", source.contains("*/ public final class Meshquiver { "));
        Check.due("one import ahead of all", () -> source.startsWith("import java.util.NoSuchElementException; /** "),
                true);
    }

    private static void groups(List<String> lines) {
        for (String group : Face.GROUPS) {
            String title = group.substring(0, group.indexOf(": "));
            int start = lines.indexOf("    // ---- " + title);
            Check.isTrue("ahead of its calls: " + title, start >= 0);
            String calls = group.substring(title.length() + 2);
            StringBuilder found = new StringBuilder();
            for (int i = start + 1; i < lines.size() && !lines.get(i).startsWith("    // ---- "); i++) {
                if (lines.get(i).startsWith("    public ")) {
                    found.append(' ').append(lines.get(i).replaceAll("\\(.*", "").replaceAll(".* ", ""));
                }
            }
            Check.due("the calls behind: " + title, () -> found.toString().trim(), calls);
        }
    }

    /** Where the document stands beside the checkout, it has the face that the tests have. */
    private static void document() throws IOException {
        List<String> document = Files.exists(DOCUMENT) ? Files.readAllLines(DOCUMENT) : List.of();
        int start = document.indexOf("public final class Meshquiver {");
        for (int i = 0; i < Face.LINES.size() && start >= 0; i++) {
            int at = i;
            Check.due("a line of the document", () -> document.get(start + 1 + at).trim(), Face.LINES.get(i));
        }
    }

    private static void inside() {
        Set<String> due = new HashSet<>(Face.names());
        Class<?>[] classes = Meshquiver.class.getDeclaredClasses();
        Check.isTrue("some twelve classes", classes.length <= 11);
        for (Class<?> type : classes) {
            Check.isTrue("static and not public: " + type, Modifier.isStatic(type.getModifiers())
                    && !Modifier.isPublic(type.getModifiers()));
            for (Method method : type.getDeclaredMethods()) {
                Check.isTrue("not of the face: " + method, !due.contains(method.getName()));
                Check.isTrue("at most seven parameters: " + method, method.getParameterCount() <= 7);
            }
        }
        for (Class<?> type : classes) {
            fields(type);
        }
        fields(Meshquiver.class);
    }

    private static void fields(Class<?> type) {
        int count = 0;
        for (Field field : type.getDeclaredFields()) {
            boolean isStatic = Modifier.isStatic(field.getModifiers());
            count += isStatic ? 0 : 1;
            Check.isTrue("private: " + field, Modifier.isPrivate(field.getModifiers()));
            Check.isTrue("static fields are final: " + field, !isStatic || Modifier.isFinal(field.getModifiers()));
        }
        Check.isTrue("some twenty fields: " + type + " has " + count, count <= 22);
    }

    private static void text(List<String> lines) {
        Pattern forbidden = Pattern.compile("->|::|\\bfinally\\b|\\bsynchronized\\b|\\bassert\\b|\\btry\\b|\\bcatch\\b"
                + "|Exact\\(|\\binstanceof\\b|\\brecord\\b|\\bequals\\b|hashCode|System\\.(?!arraycopy)|\\.length\\(\\)");
        Pattern head = Pattern.compile("^( {4}| {8})(public|private) .*[\\w\\]] \\w+\\(.*");
        int start = -1;
        boolean isComment = false;
        for (int i = 0; i < lines.size(); i++) {
            String line = lines.get(i);
            String code = line.trim();
            isComment = code.startsWith("/**") || isComment && !code.startsWith("*/");
            boolean isText = isComment || code.startsWith("*") || code.startsWith("//");
            isComment = isComment && !code.endsWith("*/");
            int number = i + 1;
            Matcher found = forbidden.matcher(line);
            Check.isTrue("line " + number + " keeps to the language: " + code, isText || !found.find());
            Check.isTrue("line " + number + " is short", line.length() <= 110);
            for (char sign : line.toCharArray()) {
                if (sign > 126) {
                    Check.isTrue("line " + number + " is plain", false);
                }
            }
            if (head.matcher(line).matches()) {
                start = i;
            }
            boolean isEnd = line.equals("    }") || line.equals("        }");
            if (isEnd && start >= 0) {
                int length = i - start;
                Check.isTrue("the method at " + (start + 1) + " is short", length <= 60);
                start = -1;
            }
            if (code.startsWith("import ")) {
                Check.due("the import", () -> code, "import java.util.NoSuchElementException;");
            }
        }
    }
}
