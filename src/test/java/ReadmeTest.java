import java.io.File;
import java.io.IOException;
import java.lang.reflect.Method;
import java.lang.reflect.Modifier;
import java.nio.charset.StandardCharsets;
import java.nio.file.Files;
import java.nio.file.Path;
import java.util.List;
import java.util.regex.Matcher;
import java.util.regex.Pattern;
import java.util.stream.Collectors;
import java.util.stream.Stream;

/** README.md tells the class and its tests as they stand; run from the project's root. */
public final class ReadmeTest {
    private static final Path TESTS = Path.of("src/test/java");

    public static void main(String[] args) throws IOException, InterruptedException {
        String page = Files.readString(Path.of("README.md"));
        example(page);
        calls(page);
        tests(page);
        Check.end();
    }

    private static void example(String page) throws IOException, InterruptedException {
        String[] due = block(page, "text").split("\n");
        String[] got = printedBy(block(page, "java")).split("\n");
        Check.due("rows that the example prints", due.length, got.length);
        for (int i = 0; i < due.length && i < got.length; i++) {
            Check.due("the example's row " + i + ", " + got[i] + " for " + due[i], 1, got[i].equals(due[i]) ? 1 : 0);
        }
    }

    private static String block(String page, String language) {
        Matcher m = Pattern.compile("(?s)\n```" + language + "\n(.*?)\n```\n").matcher(page);
        return m.find() ? m.group(1) : "";
    }

    private static String printedBy(String program) throws IOException, InterruptedException {
        Path folder = Files.createTempDirectory("readme");
        Path source = folder.resolve("Example.java");
        Files.writeString(source, program);
        String path = System.getProperty("java.class.path");
        run("javac", "-cp", path, "-d", folder.toString(), source.toString());
        String printed = run("java", "-cp", path + File.pathSeparator + folder, "Example");
        Files.deleteIfExists(folder.resolve("Example.class"));
        Files.deleteIfExists(source);
        Files.deleteIfExists(folder);
        return printed;
    }

    private static String run(String... command) throws IOException, InterruptedException {
        Process process = new ProcessBuilder(command).redirectError(ProcessBuilder.Redirect.INHERIT).start();
        String printed = new String(process.getInputStream().readAllBytes(), StandardCharsets.UTF_8);
        Check.due(command[0] + " of the example", 0, process.waitFor());
        return printed;
    }

    /** Each call has a row of the table, with as many parameters as it takes. */
    private static void calls(String page) {
        int methods = 0;
        for (Method m : PoundBoys.class.getDeclaredMethods()) {
            if (Modifier.isPublic(m.getModifiers())) {
                methods++;
                String parameters = m.getParameterCount() == 0 ? "" : "\\w+(, \\w+){" + (m.getParameterCount() - 1) + "}";
                boolean has = Pattern.compile("\n\\| `" + m.getName() + "\\(" + parameters + "\\)` \\|").matcher(page).find();
                Check.due("README.md has a row of " + m.getName(), 1, has ? 1 : 0);
            }
        }
        Check.due("calls", 28, methods);
    }

    /** Each class of the tests is named, and no other one is. */
    private static void tests(String page) throws IOException {
        List<String> classes;
        try (Stream<Path> files = Files.list(TESTS)) {
            classes = files.map(f -> f.getFileName().toString().replace(".java", "")).collect(Collectors.toList());
        }
        for (String name : classes) {
            Check.due("README.md names " + name, 1, page.contains("`" + name + "`") ? 1 : 0);
        }
        Matcher named = Pattern.compile("`(\\w+Test)`").matcher(page);
        while (named.find()) {
            Check.due("there is a " + named.group(1), 1, classes.contains(named.group(1)) ? 1 : 0);
        }
        Check.due("README.md says how to run them", 1, page.contains("\n    .ci/run\n") ? 1 : 0);
    }
}
