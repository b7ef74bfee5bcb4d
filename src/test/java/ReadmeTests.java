import java.io.File;
import java.io.IOException;
import java.lang.reflect.Method;
import java.lang.reflect.Modifier;
import java.nio.file.Files;
import java.nio.file.Path;
import java.util.ArrayList;
import java.util.Arrays;
import java.util.Collections;
import java.util.List;
import java.util.Set;
import java.util.TreeSet;
import java.util.regex.Matcher;
import java.util.regex.Pattern;
import java.util.stream.Stream;

/** README.md as it stands: its calls answer as it says, its commands run, its tables are whole. */
public final class ReadmeTests {
    private static final Pattern CALL = Pattern.compile("desk\\.(\\w+)\\(.*\\);.*");
    private static final Pattern ANSWERED =
            Pattern.compile("(desk\\.\\w+\\(.*\\));\\s*// (NONE|BAD|NO|FULL|-?\\d+)\\b.*");
    private static final Pattern MAIN = Pattern.compile("public static void main\\(");

    private static int wrong = 0;

    private final Path root;
    private final Path shared;
    private final List<String> readme;
    private final Path scratch;

    private ReadmeTests(Path scratch) throws IOException {
        this.scratch = scratch;
        Path source = Path.of(System.getProperty("scriptdesk.source", "src/main/java/ScriptDesk.java"));
        root = source.toRealPath().getParent().getParent().getParent().getParent();
        shared = Path.of(System.getProperty("scriptdesk.shared", root + "/../shared/tests"))
                .toRealPath().getParent();
        readme = Files.readAllLines(root.resolve("README.md"));
    }

    public static void main(String[] args) throws Exception {
        Path scratch = Files.createTempDirectory("readme");
        try {
            ReadmeTests test = new ReadmeTests(scratch);
            test.calls();
            test.commands();
            test.tables();
        } finally {
            remove(scratch);
        }
        System.out.println(wrong == 0 ? "README.md is as it says" : wrong + " faults in README.md");
        if (wrong != 0) {
            System.exit(1);
        }
    }

    private static void hold(boolean holds, String what) {
        if (!holds) {
            wrong++;
            System.out.println(what);
        }
    }

    // ------------------------------------------------------------ its calls

    private void calls() throws Exception {
        List<String> members = new ArrayList<>();
        List<String> body = new ArrayList<>();
        Set<String> called = new TreeSet<>();
        for (List<String> block : blocks("java")) {
            if (block.get(0).startsWith("static ")) {
                members.addAll(block);
            } else {
                for (String line : block) {
                    body.add(checked(line, called));
                }
            }
        }
        Set<String> face = new TreeSet<>();
        for (Method m : ScriptDesk.class.getDeclaredMethods()) {
            if (Modifier.isPublic(m.getModifiers())) {
                face.add(m.getName());
            }
        }
        hold(called.equals(face), "the calls of README.md are " + called + ", the face has " + face);
        Path program = scratch.resolve("ReadmeCalls.java");
        Files.write(program, program(members, body));
        Path classes = scratch.resolve("classes");
        hold(run(scratch, tool("javac"), "-Xlint:all", "-d", classes.toString(),
                root.resolve("src/main/java/ScriptDesk.java").toString(), program.toString()) == 0,
                "the calls of README.md do not compile");
        hold(run(scratch, tool("java"), "-cp", classes.toString(), "ReadmeCalls") == 0,
                "the calls of README.md do not answer as it says");
    }

    private static String checked(String line, Set<String> called) {
        Matcher call = CALL.matcher(line);
        if (!call.matches()) {
            return line;
        }
        called.add(call.group(1));
        Matcher answered = ANSWERED.matcher(line);
        if (!answered.matches()) {
            hold(false, "README.md does not tell the answer of " + line);
            return line;
        }
        String due = answered.group(2);
        boolean isNumber = due.matches("-?\\d+");
        return "due(\"" + answered.group(1) + "\", " + answered.group(1) + ", "
                + (isNumber ? due + "L" : "ScriptDesk." + due) + ");";
    }

    private static List<String> program(List<String> members, List<String> body) {
        List<String> lines = new ArrayList<>(List.of(
                "final class ReadmeCalls {",
                "static int wrong = 0;",
                "static void due(String call, long got, long want) {",
                "if (got != want) { wrong++;",
                "System.out.println(call + \" answered \" + got + \", README.md says \" + want); } }"));
        lines.addAll(members);
        lines.add("public static void main(String[] args) {");
        lines.addAll(body);
        lines.add("System.exit(wrong == 0 ? 0 : 1); } }");
        return lines;
    }

    // ------------------------------------------------------------ its commands

    /** In a copy, as they leave their classes behind; .ci/run is what runs this test. */
    private void commands() throws Exception {
        List<List<String>> blocks = blocks("sh");
        hold(blocks.size() == 2, "README.md has " + blocks.size() + " blocks of commands");
        Path copy = scratch.resolve("main");
        copy(root.resolve("src"), copy.resolve("src"));
        Files.createSymbolicLink(scratch.resolve("shared"), shared);
        for (List<String> block : blocks) {
            if (block.equals(List.of(".ci/run"))) {
                hold(Files.isExecutable(root.resolve(".ci/run")), ".ci/run can't be run");
            } else {
                hold(run(copy, "sh", "-e", "-c", String.join("\n", block)) == 0,
                        "the commands of README.md failed: " + block);
            }
        }
    }

    // ------------------------------------------------------------ its tables

    private void tables() throws IOException {
        Set<String> tests = new TreeSet<>();
        for (File file : root.resolve("src/test/java").toFile().listFiles()) {
            if (MAIN.matcher(Files.readString(file.toPath())).find()) {
                tests.add(file.getName().replace(".java", ""));
            }
        }
        hold(tableUnder("| test |").equals(tests), "the tests are " + tests);
        Set<String> classes = new TreeSet<>();
        for (Class<?> inside : ScriptDesk.class.getDeclaredClasses()) {
            classes.add(inside.getSimpleName());
        }
        hold(tableUnder("| class inside |").equals(classes), "the classes inside are " + classes);
    }

    private Set<String> tableUnder(String head) {
        Set<String> names = new TreeSet<>();
        boolean within = false;
        for (String line : readme) {
            within = line.startsWith(head) || within && line.startsWith("|");
            Matcher name = Pattern.compile("\\| `(\\w+)` \\|.*").matcher(line);
            if (within && name.matches()) {
                names.add(name.group(1));
            }
        }
        return names;
    }

    // ------------------------------------------------------------ helpers

    private List<List<String>> blocks(String language) {
        List<List<String>> blocks = new ArrayList<>();
        List<String> open = null;
        for (String line : readme) {
            if (line.equals("```" + language)) {
                open = new ArrayList<>();
            } else if (line.equals("```") && open != null) {
                blocks.add(open);
                open = null;
            } else if (open != null) {
                open.add(line);
            }
        }
        return blocks;
    }

    private static String tool(String name) {
        return Path.of(System.getProperty("java.home"), "bin", name).toString();
    }

    /** What it printed is shown only if it failed. */
    private static int run(Path folder, String... command) throws Exception {
        Path log = Files.createTempFile("readme", ".log");
        Process process = new ProcessBuilder(command).directory(folder.toFile())
                .redirectErrorStream(true).redirectOutput(log.toFile()).start();
        int code = process.waitFor();
        if (code != 0) {
            System.out.println(Arrays.toString(command) + " ended with " + code);
            System.out.println(Files.readString(log));
        }
        Files.delete(log);
        return code;
    }

    private static void copy(Path from, Path to) throws IOException {
        for (Path path : allUnder(from)) {
            Path target = to.resolve(from.relativize(path).toString());
            Files.createDirectories(target.getParent());
            Files.copy(path, target);
        }
    }

    private static void remove(Path folder) throws IOException {
        List<Path> paths = allUnder(folder);
        Collections.reverse(paths);
        for (Path path : paths) {
            Files.delete(path);
        }
    }

    private static List<Path> allUnder(Path folder) throws IOException {
        try (Stream<Path> paths = Files.walk(folder)) {
            return new ArrayList<>(paths.toList());
        }
    }
}
