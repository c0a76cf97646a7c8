import java.io.File;
import java.io.IOException;
import java.lang.reflect.InvocationTargetException;
import java.nio.charset.StandardCharsets;
import java.nio.file.Files;
import java.nio.file.Path;
import java.util.ArrayList;
import java.util.Comparator;
import java.util.List;
import java.util.Set;
import java.util.TreeSet;
import java.util.regex.Matcher;
import java.util.regex.Pattern;
import java.util.spi.ToolProvider;
import java.util.stream.Stream;

/**
 * README.md: the calls that it shows answer as it says, the commands that it shows print what it
 * says, and its lists name each call and each test.
 */
public final class ReadmeTest {
    private static final String MADE = "Meshquiver house = new Meshquiver();";
    private static final String CI = ".ci/run";
    private static final int MOST_CALLS = 512;
    /** A call, what it is kept as, its name, and what it answers, with words behind ": " or without. */
    private static final Pattern CALL = Pattern.compile(
            "((?:int|boolean|char|long|float|double) (\\w+) = )?(house\\.(\\w+)\\([^()]*\\)); +// (.+)");

    /** What stands between two fences: its kind, its lines, and where the first of these is. */
    private record Block(String kind, int start, List<String> lines) {
        private String text() {
            return String.join("\n", lines) + "\n";
        }

        private boolean isProgram() {
            return kind.equals("java") && lines.get(0).equals("public final class Example {");
        }

        private boolean isCalls() {
            return kind.equals("java") && !isProgram();
        }
    }

    public static void main(String[] args) throws IOException, InterruptedException, ReflectiveOperationException {
        List<String> page = Files.readAllLines(Path.of("README.md"));
        List<Block> blocks = blocks(page);
        listsOfCalls(page);
        listsOfTests(page);
        shownCalls(blocks);
        answers(blocks);
        commands(blocks);
        Check.finish();
    }

    private static List<Block> blocks(List<String> page) {
        List<Block> blocks = new ArrayList<>();
        int start = -1;
        for (int i = 0; i < page.size(); i++) {
            if (page.get(i).startsWith("```")) {
                if (start >= 0) {
                    String kind = page.get(start).substring(3);
                    blocks.add(new Block(kind, start + 2, page.subList(start + 1, i)));
                    Check.isTrue("a block of a known kind: " + kind, Set.of("java", "sh", "text").contains(kind));
                }
                start = start < 0 ? i : -1;
            }
        }
        Check.isTrue("each block ends", start < 0);
        return blocks;
    }

    // ---- lists

    private static void listsOfCalls(List<String> page) {
        String text = String.join("\n", page);
        for (String line : Face.LINES.subList(1, Face.LINES.size())) {
            String shown = "`" + Face.shown(line) + "`";
            Check.isTrue("README.md tells of " + shown, text.contains(shown));
        }
    }

    private static void listsOfTests(List<String> page) throws IOException {
        Set<String> there = new TreeSet<>();
        try (Stream<Path> files = Files.list(Path.of("src/test/java"))) {
            files.map(file -> file.getFileName().toString()).filter(name -> name.endsWith("Test.java"))
                    .forEach(name -> there.add(name.replace(".java", "")));
        }
        Set<String> told = new TreeSet<>();
        Pattern name = Pattern.compile("`(\\w+Test)`");
        int start = page.indexOf("The tests of the project:");
        for (int i = Math.max(start, 0); i < page.size(); i++) {
            Matcher found = name.matcher(page.get(i));
            while (found.find()) {
                told.add(found.group(1));
            }
        }
        Check.due("README.md names each test", () -> told, there);
    }

    /** Each call of the face is shown at least once. */
    private static void shownCalls(List<Block> blocks) {
        Set<String> shown = new TreeSet<>();
        for (Block block : blocks) {
            for (String line : block.lines()) {
                Matcher call = CALL.matcher(line);
                if (block.isCalls() && call.matches()) {
                    shown.add(call.group(4));
                }
            }
        }
        Check.due("README.md shows each call", () -> shown, new TreeSet<>(Face.names()));
    }

    // ---- answers

    /** Makes a method of each block, in which each line is a check; the compiler reads them as shown. */
    private static void answers(List<Block> blocks) throws IOException, ReflectiveOperationException {
        StringBuilder calls = new StringBuilder();
        StringBuilder methods = new StringBuilder();
        int count = 0;
        for (Block block : blocks) {
            if (block.isCalls()) {
                String name = "block" + block.start();
                calls.append("        ").append(name).append("();\n");
                methods.append("    private static void ").append(name).append("() {\n");
                methods.append(checks(block)).append("    }\n");
                count++;
            }
        }
        Check.isTrue("README.md shows calls", count > 0);
        run("public final class ReadmeCalls {\n    public static void main(String[] args) {\n" + calls + "    }\n"
                + methods + "}\n");
    }

    private static String checks(Block block) {
        StringBuilder code = new StringBuilder();
        Check.due("README.md line " + block.start() + " makes a house", () -> block.lines().get(0), MADE);
        Check.isTrue("a house is used for at most 512 calls", block.lines().size() - 1 <= MOST_CALLS);
        code.append(MADE).append('\n');
        for (int i = 1; i < block.lines().size(); i++) {
            String place = "README.md line " + (block.start() + i);
            String line = block.lines().get(i);
            Matcher call = CALL.matcher(line);
            boolean isCall = call.matches();
            Check.isTrue(place + " shows a call and its answer: " + line, isCall);
            if (isCall) {
                boolean isKept = call.group(1) != null;
                String due = call.group(5).replaceAll(": .*", "");
                String want = due.startsWith("throws ") ? '"' + due.replace("throws ", "throws.") + '"' : due;
                code.append(isKept ? call.group(1) + call.group(3) + ";\n" : "");
                code.append("Check.due(\"").append(place).append("\", () -> ");
                code.append(isKept ? call.group(2) : call.group(3)).append(", ").append(want).append(");\n");
            }
        }
        return code.toString();
    }

    /** Compiles into where this test was compiled to, so that its checks are counted with the others. */
    private static void run(String source) throws IOException, ReflectiveOperationException {
        String path = System.getProperty("java.class.path").split(File.pathSeparator)[0];
        Path file = Path.of(path, "ReadmeCalls.java");
        Files.writeString(file, source);
        int code = ToolProvider.findFirst("javac").orElseThrow().run(System.out, System.out,
                "-encoding", "UTF-8", "-cp", path, "-d", path, file.toString());
        Check.due("the calls of README.md compile", () -> code, 0);
        if (code == 0) {
            try {
                Class.forName("ReadmeCalls").getMethod("main", String[].class).invoke(null, (Object) new String[0]);
            } catch (InvocationTargetException e) {
                Check.due("a call whose answer README.md keeps", () -> e.getCause(), "an answer");
            }
        }
    }

    // ---- commands

    private static void commands(List<Block> blocks) throws IOException, InterruptedException {
        Path room = Files.createTempDirectory("readme");
        try {
            Path here = room.resolve("main");
            copy(Path.of("src"), here.resolve("src"));
            copy(Path.of("../shared/tests"), room.resolve("shared/tests"));
            int count = 0;
            for (int i = 0; i < blocks.size(); i++) {
                Block block = blocks.get(i);
                if (block.isProgram()) {
                    Files.writeString(here.resolve("Example.java"), block.text());
                }
                // This one runs all tests, and so this test too, without end.
                boolean isCi = block.text().equals(CI + "\n");
                if (block.kind().equals("sh") && !isCi) {
                    Block printed = blocks.get(Math.min(i + 1, blocks.size() - 1));
                    Check.due("what is printed is told behind line " + block.start(), () -> printed.kind(), "text");
                    Check.due("README.md line " + block.start() + " prints", () -> print(here, block), printed.text());
                    count++;
                }
                Check.isTrue(CI + " can be run", !isCi || Files.isExecutable(Path.of(CI)));
            }
            Check.isTrue("README.md shows commands", count > 0);
        } finally {
            try (Stream<Path> all = Files.walk(room)) {
                all.sorted(Comparator.reverseOrder()).forEach(path -> path.toFile().delete());
            }
        }
    }

    private static void copy(Path from, Path to) throws IOException {
        List<Path> files;
        try (Stream<Path> all = Files.walk(from)) {
            files = all.filter(Files::isRegularFile).toList();
        }
        for (Path file : files) {
            Path copy = to.resolve(from.relativize(file).toString());
            Files.createDirectories(copy.getParent());
            Files.write(copy, Files.readAllBytes(file));
        }
    }

    private static String print(Path here, Block block) {
        try {
            Process process = new ProcessBuilder("sh", "-e", "-c", block.text()).directory(here.toFile())
                    .redirectErrorStream(true).start();
            process.getOutputStream().close();
            String printed = new String(process.getInputStream().readAllBytes(), StandardCharsets.UTF_8);
            int code = process.waitFor();
            return code == 0 ? printed : printed + "exit code " + code + "\n";
        } catch (IOException | InterruptedException e) {
            return e.toString();
        }
    }
}
