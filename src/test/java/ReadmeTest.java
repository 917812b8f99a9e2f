import java.io.File;
import java.io.IOException;
import java.nio.file.Files;
import java.nio.file.Path;
import java.util.ArrayList;
import java.util.Arrays;
import java.util.List;
import java.util.TreeSet;
import java.util.regex.Matcher;
import java.util.regex.Pattern;

/** What README.md says is so: its example and its commands run and print what it tells, and no test or part is missing. */
public final class ReadmeTest {
    private static final Path TESTS = Path.of("src", "test", "java");
    /** The command that runs this test; run here, it would run itself without end. */
    private static final String ALL_TESTS = ".ci/run";
    private static final Pattern BLOCK = Pattern.compile("(?ms)^```(\\w+)\\n(.*?)^```$");

    private static String readme;

    public static void main(String[] args) throws IOException, InterruptedException {
        readme = Files.readString(Path.of("README.md"));
        exampleKeepsToTheFace();
        commands();
        tableOfTests();
        parts();
        Check.end();
    }

    private static String block(String language) {
        Matcher blocks = BLOCK.matcher(readme);
        while (blocks.find()) {
            if (blocks.group(1).equals(language)) return blocks.group(2);
        }
        return "";
    }

    /** Without this, an example that lost its calls would still print what it tells. */
    private static void exampleKeepsToTheFace() {
        Check.same("the example makes an object", block("java").contains("new GripInspector()"), true);
        Check.same("what the example prints is told", block("text").isEmpty(), false);
    }

    /** They run one after the other, as they are written, in a folder that holds the program and the example. */
    private static void commands() throws IOException, InterruptedException {
        Path folder = Files.createTempDirectory("readme");
        Path example = folder.resolve("Example.java");
        Path sources = folder.resolve("src");
        Files.writeString(example, block("java"));
        Files.createSymbolicLink(sources, Path.of("src").toAbsolutePath());
        List<String> commands = new ArrayList<>();
        for (String line : BLOCK.matcher(readme).replaceAll("").split("\n")) {
            if (line.startsWith("    ")) commands.add(line.strip());
        }
        Check.same("the commands name " + ALL_TESTS, commands.remove(ALL_TESTS), true);
        Check.same(ALL_TESTS + " can be run", new File(ALL_TESTS).canExecute(), true);
        Check.same("the commands run the example", commands.stream().anyMatch(command -> command.endsWith(" Example")), true);
        for (String command : commands) {
            String due = command.endsWith(" Example") ? block("text") : command.startsWith("javac ") ? ""
                : "all answers are as due\n";
            Check.same(command, printed(folder, command), due);
        }
        for (Path path : List.of(example, sources, folder)) Files.delete(path);
    }

    private static String printed(Path folder, String command) throws IOException, InterruptedException {
        Process process = new ProcessBuilder("sh", "-c", command).directory(folder.toFile())
            .redirectError(ProcessBuilder.Redirect.INHERIT).start();
        String printed = new String(process.getInputStream().readAllBytes());
        Check.same("the end of " + command, process.waitFor(), 0);
        return printed;
    }

    /** The table has a row for each test, and no row for one that is not there. */
    private static void tableOfTests() throws IOException {
        TreeSet<String> told = new TreeSet<>();
        Matcher rows = Pattern.compile("(?m)^\\| `(\\w+)` \\|").matcher(readme);
        while (rows.find()) told.add(rows.group(1));
        TreeSet<String> there = new TreeSet<>();
        for (String name : TESTS.toFile().list()) {
            if (name.endsWith("Test.java")) there.add(name.substring(0, name.length() - ".java".length()));
        }
        Check.same("the tests in the table", told, there);
    }

    /** Each class of the program is told of among the parts. */
    private static void parts() {
        String parts = readme.substring(readme.indexOf("## Parts"));
        List<Class<?>> classes = new ArrayList<>(Arrays.asList(GripInspector.class.getDeclaredClasses()));
        classes.add(GripInspector.class);
        for (Class<?> part : classes) {
            String name = "`" + part.getSimpleName() + "`";
            Check.same("the parts tell of " + name, parts.contains(name), true);
        }
    }
}
