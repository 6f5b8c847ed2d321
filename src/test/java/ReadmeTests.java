import java.io.IOException;
import java.lang.reflect.Method;
import java.lang.reflect.Modifier;
import java.nio.charset.StandardCharsets;
import java.nio.file.Files;
import java.nio.file.Path;
import java.util.ArrayList;
import java.util.List;
import javax.tools.ToolProvider;

/** The example by which README.md shows how the class is used compiles, and prints the answers that README.md gives. */
public final class ReadmeTests {
    private static final String PRINTS = "System.out.println(";

    private final Checks checks = new Checks();
    private final String readme;

    private ReadmeTests(String readme) {
        this.readme = readme;
    }

    public static void main(String[] args) throws IOException, InterruptedException {
        ReadmeTests tests = new ReadmeTests(Files.readString(Path.of("README.md")));
        tests.checks.part("README.md");
        tests.answersOfTheExample();
        tests.everyCallIsNamed();
        tests.checks.end();
    }

    private void answersOfTheExample() throws IOException, InterruptedException {
        String example = example();
        List<String> given = answersGiven(example);
        List<String> printed = answersPrinted(example);
        checks.due("the example prints something", given.isEmpty(), false);
        checks.due("the number of answers that the example prints", printed.size(), given.size());
        for (int a = 0; a < Math.min(given.size(), printed.size()); a++) {
            checks.due("line " + (a + 1) + " of those that print", printed.get(a), given.get(a));
        }
    }

    private void everyCallIsNamed() {
        for (Method method : CitationKeys.class.getDeclaredMethods()) {
            String name = method.getName();
            if (Modifier.isPublic(method.getModifiers())) {
                checks.due(name + " is named", readme.contains("`" + name + "`"), true);
            }
        }
    }

    private String example() {
        String begin = "```java\n";
        int fence = readme.indexOf(begin);
        int from = fence + begin.length();
        int to = readme.indexOf("```\n", from);
        if (fence < 0 || to < 0 || readme.indexOf(begin, to) >= 0) {
            throw new AssertionError("README.md has not just one example");
        }
        return readme.substring(from, to);
    }

    /** What stands behind each line that prints, up to a colon; a line that prints and says no answer is wrong. */
    private List<String> answersGiven(String example) {
        List<String> given = new ArrayList<>();
        for (String line : example.split("\n")) {
            if (line.contains(PRINTS)) {
                int comment = line.indexOf("// ");
                checks.due("an answer is given behind " + line.strip(), comment >= 0, true);
                String said = comment < 0 ? "" : line.substring(comment + 3);
                given.add(said.split(": ", 2)[0]);
            }
        }
        return given;
    }

    private List<String> answersPrinted(String example) throws IOException, InterruptedException {
        Path directory = Files.createTempDirectory("readme");
        Path source = directory.resolve("Example.java");
        try {
            Files.writeString(source, example);
            compile(source, directory);
            return linesOf(directory);
        } finally {
            Files.deleteIfExists(directory.resolve("Example.class"));
            Files.deleteIfExists(source);
            Files.deleteIfExists(directory);
        }
    }

    private static void compile(Path source, Path directory) {
        String[] options = {"-Xlint:all", "-Werror", "-cp", classes(), "-d", directory.toString(), source.toString()};
        if (ToolProvider.getSystemJavaCompiler().run(null, null, null, options) != 0) {
            throw new AssertionError("the example of README.md does not compile");
        }
    }

    // In a Java machine of its own, as a reader runs it, so that the example's name and its output are its own.
    private List<String> linesOf(Path directory) throws IOException, InterruptedException {
        String java = Path.of(System.getProperty("java.home"), "bin", "java").toString();
        String path = directory + System.getProperty("path.separator") + classes();
        ProcessBuilder run = new ProcessBuilder(java, "-cp", path, "Example");
        Process process = run.redirectError(ProcessBuilder.Redirect.INHERIT).start();
        String printed = new String(process.getInputStream().readAllBytes(), StandardCharsets.UTF_8);
        checks.due("the example's exit code", process.waitFor(), 0);
        return printed.lines().toList();
    }

    private static String classes() {
        return System.getProperty("java.class.path");
    }
}
