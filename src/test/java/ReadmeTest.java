import java.io.IOException;
import java.nio.charset.StandardCharsets;
import java.nio.file.Files;
import java.nio.file.Path;
import java.util.ArrayList;
import java.util.Comparator;
import java.util.List;
import java.util.regex.Matcher;
import java.util.regex.Pattern;
import java.util.stream.Collectors;
import java.util.stream.Stream;

/** README.md is tried: the calls that it shows answer as it says, and the command that it names runs the tests. */
public final class ReadmeTest {
    private static final String MAIN = "src/main/java/EveningFirst.java";
    private static final Pattern ANSWERED = Pattern.compile("(x\\.[a-z]+\\(.*?\\));\\s*// (-?[0-9]+|BAD|STATE|FULL|NONE)\\b.*");

    private static int wrong = 0;

    public static void main(String[] args) throws Exception {
        String readme = Files.readString(Path.of("README.md"));
        Path room = Files.createTempDirectory("readme");
        try {
            use(readme, room);
            command(readme, room);
            names(readme);
        } finally {
            clear(room);
        }
        System.out.println("ReadmeTest: " + wrong + " wrong");
        if (wrong != 0) {
            System.exit(1);
        }
    }

    private static void is(boolean so, String what) {
        if (!so) {
            wrong++;
            System.out.println("not so: " + what);
        }
    }

    private static void clear(Path room) throws IOException {
        try (Stream<Path> all = Files.walk(room)) {
            for (Path one : all.sorted(Comparator.reverseOrder()).collect(Collectors.toList())) {
                Files.delete(one);
            }
        }
    }

    /** What a command printed; its exit code stands ahead. */
    private static String run(Path where, String... words) throws IOException, InterruptedException {
        Process process = new ProcessBuilder(words).directory(where.toFile()).redirectErrorStream(true).start();
        String printed = new String(process.getInputStream().readAllBytes(), StandardCharsets.UTF_8);
        return process.waitFor() + "\n" + printed;
    }

    // ---- the use

    private static List<String> linesOf(String readme) {
        List<String> lines = new ArrayList<>();
        Matcher block = Pattern.compile("(?s)```java\n(.*?)```").matcher(readme);
        while (block.find()) {
            lines.addAll(List.of(block.group(1).split("\n")));
        }
        return lines;
    }

    private static void use(String readme, Path room) throws Exception {
        StringBuilder program = new StringBuilder("public final class Use {\n"
                + "private static final int BAD = EveningFirst.BAD, STATE = EveningFirst.STATE, FULL = EveningFirst.FULL, NONE = EveningFirst.NONE;\n"
                + "private static void due(String call, long got, long want) { if (got != want) { System.out.println(call"
                + " + \" answered \" + got + \", README.md says \" + want); } }\n"
                + "public static void main(String[] args) {\n");
        int answered = 0;
        for (String line : linesOf(readme)) {
            Matcher m = ANSWERED.matcher(line);
            if (m.matches()) {
                answered++;
                program.append("due(\"").append(m.group(1)).append("\", ").append(m.group(1)).append(", ").append(m.group(2)).append(");\n");
            } else {
                is(!line.startsWith("x."), "README.md says what '" + line + "' answers");
                program.append(line).append("\n");
            }
        }
        is(answered > 40, "the calls were found: " + answered);
        program.append("}\n}\n");
        Files.writeString(room.resolve("Use.java"), program);
        String path = Path.of(MAIN).toAbsolutePath().toString();
        String compiled = run(room, "javac", "-d", ".", path, "Use.java");
        is(compiled.equals("0\n"), "the use compiles: " + compiled);
        String printed = run(room, "java", "-cp", ".", "Use");
        is(printed.equals("0\n"), "the use answers as README.md says: " + printed);
    }

    // ---- the command

    private static String test(String name, String body) {
        return "public final class " + name + " { public static void main(String[] args) { System.out.println(\"" + name
                + " runs\"); " + body + " } }\n";
    }

    private static final String GOOD = "if (new EveningFirst().rule(0) != 4) { System.exit(1); }";
    private static final String FAILING = "if (new EveningFirst().rule(0) == 4) { System.exit(1); }";

    /** A project of two tests, the class and this project's .ci/run, in a room of its own. */
    private static Path project(Path room, String name, String ours, String shared) throws IOException {
        Path project = room.resolve(name).resolve("project");
        for (String file : new String[] {MAIN, ".ci/run"}) {
            Files.createDirectories(project.resolve(file).getParent());
            Files.copy(Path.of(file), project.resolve(file));
        }
        Path tests = Files.createDirectories(project.resolve("src/test/java"));
        Path sharedTests = Files.createDirectories(project.resolve("../shared/tests").normalize());
        if (ours != null) {
            Files.writeString(tests.resolve("Ours.java"), ours);
        }
        if (shared != null) {
            Files.writeString(sharedTests.resolve("Shared.java"), shared);
        }
        return project;
    }

    private static void command(String readme, Path room) throws Exception {
        is(Files.isExecutable(Path.of(".ci/run")), ".ci/run is executable");
        Matcher m = Pattern.compile("(?s)## Tests\n\n    ([^\n]+)\n").matcher(readme);
        boolean found = m.find();
        is(found, "README.md names the command of the tests");
        if (!found) {
            return;
        }
        String[] words = m.group(1).split(" ");
        String both = run(project(room, "both", test("Ours", GOOD), test("Shared", GOOD)), words);
        is(both.startsWith("0\n"), "both tests are good: " + both);
        is(both.contains("Ours runs") && both.contains("Shared runs"), "both tests are run: " + both);
        String ours = run(project(room, "ours", test("Ours", FAILING), test("Shared", GOOD)), words);
        is(!ours.startsWith("0\n") && ours.contains("Shared runs"), "ours fails, the shared one is run: " + ours);
        String shared = run(project(room, "shared", test("Ours", GOOD), test("Shared", FAILING)), words);
        is(!shared.startsWith("0\n") && shared.contains("Ours runs"), "the shared one fails, ours is run: " + shared);
        is(!run(project(room, "broken", test("Ours", GOOD), test("Shared", "no java")), words).startsWith("0\n"), "one does not compile");
        is(!run(project(room, "none", test("Ours", GOOD), null), words).startsWith("0\n"), "there is no shared test");
        is(!run(project(room, "nothing", null, test("Shared", GOOD)), words).startsWith("0\n"), "there is no test of ours");
    }

    private static void names(String readme) throws IOException {
        try (Stream<Path> tests = Files.list(Path.of("src/test/java"))) {
            for (Path test : tests.collect(Collectors.toList())) {
                String name = test.getFileName().toString().replace(".java", "");
                is(readme.contains("`" + name + "`"), "README.md tells of " + name);
            }
        }
    }
}
