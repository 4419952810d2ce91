import java.io.IOException;
import java.nio.charset.StandardCharsets;
import java.nio.file.Files;
import java.nio.file.Path;
import java.nio.file.attribute.PosixFilePermissions;
import java.util.ArrayList;
import java.util.Comparator;
import java.util.List;
import java.util.Map;
import java.util.TreeMap;
import java.util.TreeSet;
import java.util.regex.Matcher;
import java.util.regex.Pattern;
import java.util.stream.Stream;

/** README.md: its example and its commands hold as they are written there. Runs in the project's folder. */
public final class ReadmeTest {
    private static final Path README = Path.of("README.md");
    private static final Path DOCUMENT = Path.of("..", "shared", "DOC.md");
    private static final Path SCRIPT = Path.of(".ci", "run");
    private static final Path CLASS = Path.of("src", "main", "java", "DoorOffice.java");
    private static final Path TESTS = Path.of("src", "test", "java");
    private static final Checks c = new Checks();

    private final String text = Files.readString(README);
    private final Path work = Files.createTempDirectory("readme");

    private ReadmeTest() throws IOException {
    }

    public static void main(String[] args) throws Exception {
        ReadmeTest test = new ReadmeTest();
        try {
            test.example();
            test.testsAlone();
            test.commandForTests();
            test.callsTold();
            test.testsTold();
        } finally {
            delete(test.work);
        }
        c.finish();
    }

    private record End(int code, String printed, String errors) { }

    private List<String> blocks(String language) {
        List<String> blocks = new ArrayList<>();
        Matcher m = Pattern.compile("(?ms)^```" + language + "\n(.*?)^```$").matcher(text);
        while (m.find()) {
            blocks.add(m.group(1));
        }
        return blocks;
    }

    private String block(String language, String with) {
        for (String block : blocks(language)) {
            if (block.contains(with)) {
                return block;
            }
        }
        c.due("a block of " + language + " with " + with, "there is none", "one");
        return "exit 1\n";
    }

    /** A line that fails ends the block, as a reader would stop there. */
    private End run(Path folder, String commands) throws Exception {
        Path errors = Files.createTempFile(work, "errors", "");
        Process p = new ProcessBuilder("bash", "-e", "-c", commands)
            .directory(folder.toFile()).redirectError(errors.toFile()).start();
        p.getOutputStream().close();
        String printed = new String(p.getInputStream().readAllBytes(), StandardCharsets.UTF_8);
        return new End(p.waitFor(), printed, Files.readString(errors));
    }

    private static void delete(Path folder) throws IOException {
        try (Stream<Path> paths = Files.walk(folder)) {
            for (Path path : paths.sorted(Comparator.reverseOrder()).toList()) {
                Files.delete(path);
            }
        }
    }

    /** A folder with the project's files, in which commands may leave what they make. */
    private Path projectFolder() throws IOException {
        Path folder = work.resolve("project");
        if (Files.notExists(folder)) {
            Files.createDirectory(folder);
            for (String part : new String[] {"src", "README.md"}) {
                Files.createSymbolicLink(folder.resolve(part), Path.of(part).toAbsolutePath());
            }
        }
        return folder;
    }

    private void example() throws Exception {
        c.due("examples", blocks("java").size(), 1);
        c.due("what they print", blocks("text").size(), 1);
        Path folder = projectFolder();
        Files.writeString(folder.resolve("Example.java"), block("java", "class Example "));
        End end = run(folder, block("sh", "java -cp build Example"));
        c.due("the example's commands end with (" + end.errors + ")", end.code, 0);
        c.due("the example", end.printed, block("text", ""));
    }

    private void testsAlone() throws Exception {
        End end = run(projectFolder(), block("sh", "java -cp build WalkTest"));
        c.due("the commands for tests alone end with (" + end.printed + end.errors + ")", end.code, 0);
        long wrongNone = end.printed.lines().filter(line -> line.endsWith(" answers, 0 wrong")).count();
        c.due("tests alone that found nothing wrong", wrongNone, 2);
    }

    // ---- the command for the tests, in a project and a shared folder of a few lines

    private void commandForTests() throws Exception {
        c.due(SCRIPT + " can be executed", Files.isExecutable(SCRIPT), true);
        String command = block("sh", ".ci/run");
        String passing = body("System.out.println(new DoorOffice().count(0));");
        String failing = body("System.exit(1);");
        String throwing = body("throw new IllegalStateException();");
        String broken = body("no code;");
        tests(command, "all pass", passing, passing, true);
        tests(command, "one of the project fails", failing, passing, false);
        tests(command, "one of ../shared/tests fails", passing, failing, false);
        tests(command, "one throws", throwing, passing, false);
        tests(command, "one does not compile", passing, broken, false);
        tests(command, "no test under ../shared/tests", passing, "", false);
    }

    private static String body(String lines) {
        return "public final class NAME { public static void main(String[] args) { " + lines + " } }\n";
    }

    private void tests(String command, String which, String own, String shared, boolean isPass) throws Exception {
        Path folder = Files.createTempDirectory(work, "tests");
        Path project = folder.resolve("main");
        copy(SCRIPT, project);
        copy(CLASS, project);
        put(project.resolve(TESTS).resolve("SmallTest.java"), own.replace("NAME", "SmallTest"));
        if (!shared.isEmpty()) {
            put(folder.resolve("shared/tests/SharedRuns.java"), shared.replace("NAME", "SharedRuns"));
        }
        Files.setPosixFilePermissions(project.resolve(SCRIPT), PosixFilePermissions.fromString("rwxr-xr-x"));
        End end = run(project, command);
        c.due(which + ": the command passes (" + end.printed + end.errors + ")", end.code == 0, isPass);
        if (isPass) {
            c.due("both tests are run", end.printed.endsWith("\n2 passed, 0 failed\n"), true);
        }
    }

    private static void copy(Path file, Path project) throws IOException {
        put(project.resolve(file), Files.readString(file));
    }

    private static void put(Path file, String text) throws IOException {
        Files.createDirectories(file.getParent());
        Files.writeString(file, text);
    }

    // ---- what is told of calls and tests

    /** The rows, each in columns, of the table with this first heading. */
    private List<String[]> table(String heading) {
        List<String[]> rows = new ArrayList<>();
        String start = "| " + heading + " |";
        boolean isIn = false;
        for (String line : text.split("\n")) {
            if (isIn && line.startsWith("| ") && !line.startsWith("| ---")) {
                rows.add(line.split("\\|"));
            }
            isIn = line.startsWith(start) || isIn && line.startsWith("|");
        }
        return rows;
    }

    private static List<String> names(String column) {
        return Pattern.compile("\\w+").matcher(column).results().map(found -> found.group()).toList();
    }

    /** "2 to 4, 43" as the numbers that it tells. */
    private static TreeSet<Integer> numbers(String column) {
        TreeSet<Integer> numbers = new TreeSet<>();
        for (String part : column.trim().split(", ")) {
            String[] ends = part.split(" to ");
            for (int n = Integer.parseInt(ends[0]); n <= Integer.parseInt(ends[ends.length - 1]); n++) {
                numbers.add(n);
            }
        }
        return numbers;
    }

    private void callsTold() throws IOException {
        Map<String, Integer> promises = new TreeMap<>();
        Matcher m = Pattern.compile("(?m)^## Promise (\\d+): (\\w+)$").matcher(Files.readString(DOCUMENT));
        while (m.find()) {
            promises.put(m.group(2), Integer.parseInt(m.group(1)));
        }
        c.due("promises with a call in the document", promises.size(), 43);
        TreeSet<String> told = new TreeSet<>();
        for (String[] row : table("what for")) {
            TreeSet<Integer> due = new TreeSet<>();
            for (String call : names(row[2])) {
                told.add(call);
                due.add(promises.getOrDefault(call, 0));
            }
            c.due("promises of" + row[2], numbers(row[3]).toString(), due.toString());
        }
        c.due("calls in the table", told.toString(), promises.keySet().toString());
    }

    private void testsTold() throws IOException {
        TreeSet<String> tests = new TreeSet<>();
        try (Stream<Path> files = Files.list(TESTS)) {
            files.map(file -> file.getFileName().toString().replace(".java", ""))
                .filter(name -> name.endsWith("Test")).forEach(tests::add);
        }
        TreeSet<String> told = new TreeSet<>();
        for (String[] row : table("test")) {
            told.addAll(names(row[1]));
        }
        c.due("tests in the table", told.toString(), tests.toString());
    }
}
