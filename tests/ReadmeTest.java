import java.net.URL;
import java.net.URLClassLoader;
import java.nio.file.Files;
import java.nio.file.Path;
import java.util.ArrayList;
import java.util.List;
import java.util.regex.Matcher;
import java.util.regex.Pattern;
import javax.tools.JavaCompiler;
import javax.tools.ToolProvider;

/** The lines of Java in README.md: they compile, and each call answers what stands behind it. */
public final class ReadmeTest {
    private static final Pattern BLOCK = Pattern.compile("```java\n(.*?)```", Pattern.DOTALL);
    private static final Pattern ANSWER = Pattern.compile("(?m)^(x\\..*\\)); +// (-?\\d+|true|false)(:.*)?$");
    private static final Pattern ROW = Pattern.compile("(?m)^\\| `(\\w+Test)` \\|");

    private ReadmeTest() {
    }

    public static void main(String[] args) throws Exception {
        String readme = Files.readString(Path.of("README.md"));
        runsAsItSays(readme);
        namesEachTest(readme);
        Check.finish();
    }

    private static void runsAsItSays(String readme) throws Exception {
        StringBuilder methods = new StringBuilder();
        StringBuilder lines = new StringBuilder();
        Matcher block = BLOCK.matcher(readme);
        while (block.find()) {
            (block.group(1).startsWith("static") ? methods : lines).append(block.group(1));
        }
        Matcher answers = ANSWER.matcher(lines);
        Check.due("calls with their answers", answers.results().count() >= 30, true);
        Check.due("answers not understood", lines.toString().split("//").length - 1, answers.reset().results().count());
        // The lines are loaded apart from the tests, so that what they answer is handed back as objects.
        String told = answers.reset().replaceAll("said.add(new Object[] {\"$1\", $1, $2});");
        run("public final class Told {\n" + methods + "public static void run(java.util.List<Object[]> said) {\n" + told
            + "}\n}\n");
    }

    private static void run(String source) throws Exception {
        Path folder = Files.createTempDirectory("readme");
        Path file = folder.resolve("Told.java");
        Files.writeString(file, source);
        JavaCompiler compiler = ToolProvider.getSystemJavaCompiler();
        int failed = compiler.run(null, null, null, "-cp", System.getProperty("java.class.path"), "-d", folder.toString(),
            file.toString());
        Check.due("the lines compile", failed, 0);
        if (failed == 0) {
            try (URLClassLoader loader = new URLClassLoader(new URL[] {folder.toUri().toURL()})) {
                List<Object[]> said = new ArrayList<>();
                loader.loadClass("Told").getMethod("run", List.class).invoke(null, said);
                for (Object[] answer : said) {
                    Check.due("README: " + answer[0] + " answered " + answer[1] + ", told is " + answer[2],
                        answer[1].equals(answer[2]), true);
                }
            }
        }
        try (var made = Files.list(folder)) {
            for (Path path : made.toList()) {
                Files.delete(path);
            }
        }
        Files.delete(folder);
    }

    private static void namesEachTest(String readme) throws Exception {
        String named = String.join(" ", ROW.matcher(readme).results().map(r -> r.group(1)).sorted().toList());
        try (var tests = Files.list(Path.of("tests"))) {
            String there = String.join(" ", tests.map(t -> t.getFileName().toString())
                .filter(t -> t.endsWith("Test.java")).map(t -> t.replace(".java", "")).sorted().toList());
            Check.due("tests named: " + named + "; there are: " + there, named.equals(there), true);
        }
    }
}
