import java.io.File;
import java.io.IOException;
import java.nio.charset.StandardCharsets;
import java.nio.file.Files;
import java.nio.file.Path;
import java.util.ArrayList;
import java.util.Comparator;
import java.util.List;
import java.util.regex.Matcher;
import java.util.regex.Pattern;
import java.util.stream.Stream;

/**
 * What README.md shows holds when it is done as it stands there: its programs are saved, its
 * commands run and what they print compared, in a copy of the project; and the tests that it names
 * are there. To be run at the project's root.
 */
public final class ReadmeTest {
    private static final Path README = Path.of("README.md");
    private static final Path TESTS = Path.of("src", "test", "java");
    private static final Pattern BLOCK = Pattern.compile("^```(\\w+)\n(.*?)^```$",
        Pattern.MULTILINE | Pattern.DOTALL);
    private static final Pattern PROGRAM = Pattern.compile("public final class (\\w+)");
    private static final Pattern FACE = Pattern.compile("^\\| `(?:new )?(\\w+)\\(", Pattern.MULTILINE);

    private final Bench bench = new Bench("README.md");
    private final Path copy;
    private String printed = "";
    private int compared;

    private ReadmeTest(Path copy) {
        this.copy = copy;
    }

    public static void main(String[] args) throws IOException, InterruptedException {
        String readme = Files.readString(README);
        Path copy = Files.createTempDirectory("readme");
        try {
            copyTree(Path.of("src"), copy);
            ReadmeTest test = new ReadmeTest(copy);
            test.blocks(readme);
            test.calls(readme);
            test.namedTests(readme);
        } finally {
            remove(copy);
        }
        Bench.end();
    }

    private static void copyTree(Path from, Path to) throws IOException {
        for (Path path : tree(from)) {
            Files.copy(path, to.resolve(path));
        }
    }

    private static void remove(Path root) throws IOException {
        List<Path> paths = tree(root);
        paths.sort(Comparator.reverseOrder());
        for (Path path : paths) {
            Files.delete(path);
        }
    }

    private static List<Path> tree(Path root) throws IOException {
        try (Stream<Path> paths = Files.walk(root)) {
            return new ArrayList<>(paths.toList());
        }
    }

    private void blocks(String readme) throws IOException, InterruptedException {
        Matcher block = BLOCK.matcher(readme);
        int programs = 0;
        while (block.find()) {
            String text = block.group(2);
            switch (block.group(1)) {
                case "java": save(text); programs++; break;
                case "sh": printed = done(text); break;
                case "text": compare(text); break;
                default: bench.due("a block of " + block.group(1), true, false);
            }
        }
        bench.due("programs that are shown", programs, 1);
        bench.due("outputs that are shown", compared, 2);
    }

    private void save(String program) throws IOException {
        Matcher name = PROGRAM.matcher(program);
        bench.due("a whole program", name.find(), true);
        Files.writeString(copy.resolve(name.group(1) + ".java"), program);
    }

    /** What the commands print; not those of all tests, of which this is one. */
    private String done(String commands) throws IOException, InterruptedException {
        if (commands.equals(".ci/run\n")) {
            bench.due(".ci/run can be run", Files.isExecutable(Path.of(".ci", "run")), true);
            return "";
        }
        File output = copy.resolve("printed").toFile();
        Process process = new ProcessBuilder("sh", "-e", "-c", commands)
            .directory(copy.toFile()).redirectErrorStream(true).redirectOutput(output).start();
        bench.due("exit code of\n" + commands, process.waitFor(), 0);
        return Files.readString(output.toPath(), StandardCharsets.UTF_8);
    }

    private void compare(String due) {
        compared++;
        if (!printed.equals(due)) {
            bench.due("what is printed:\n" + printed + "as README.md shows it:\n" + due, false, true);
        }
    }

    /** The table of calls has the constructor and every method of the face, in the face's order. */
    private void calls(String readme) {
        String[] due = {
            "AreaCore", "put", "pool", "tables", "range", "guard", "timer", "request", "start",
            "halt", "run", "register", "word", "look", "list",
        };
        Matcher call = FACE.matcher(readme);
        for (String name : due) {
            bench.due("the row of " + name, call.find() && call.group(1).equals(name), true);
        }
        bench.due("another row", call.find(), false);
    }

    /** The last column of the tables of tests: "ATest.one, two; BTest (why)". */
    private void namedTests(String readme) throws IOException {
        String tables = readme.substring(readme.indexOf("| promise | test |"));
        String named = "";
        for (String row : tables.split("\n")) {
            if (row.startsWith("| ") && row.contains("Test")) {
                String cell = row.substring(row.lastIndexOf(" | ") + 3, row.lastIndexOf(" |"));
                named = namedIn(cell.replaceAll("\\(.*?\\)", ""), named);
            }
        }
        for (Path path : tree(TESTS)) {
            String name = path.getFileName().toString().replace(".java", "");
            if (name.endsWith("Test")) {
                bench.due("README.md names " + name, named.contains(name + ";"), true);
            }
        }
    }

    private String namedIn(String cell, String before) throws IOException {
        StringBuilder named = new StringBuilder(before);
        String source = "";
        for (String part : cell.split("[;,.]")) {
            String name = part.trim();
            if (name.endsWith("Test")) {
                named.append(name).append(';');
                Path path = TESTS.resolve(name + ".java");
                bench.due("there is " + name, Files.exists(path), true);
                source = Files.exists(path) ? Files.readString(path) : "";
            } else {
                bench.due(name + " is there: " + cell, source.contains("void " + name + "("), true);
            }
        }
        return named.toString();
    }
}
