import java.io.IOException;
import java.lang.reflect.Method;
import java.net.URL;
import java.net.URLClassLoader;
import java.nio.file.Files;
import java.nio.file.Path;
import java.nio.file.StandardCopyOption;
import java.util.ArrayList;
import java.util.Arrays;
import java.util.Comparator;
import java.util.List;
import java.util.TreeSet;
import java.util.concurrent.Callable;
import java.util.regex.Matcher;
import java.util.regex.Pattern;
import java.util.stream.Collectors;
import java.util.stream.Stream;

/**
 * README.md as it stands: its Java lines are compiled and run, each with its answer, and its commands are looked at.
 * It is read where the test is run, in the project's directory.
 */
public final class ReadmeTest {
    private static final String MAIN = "src/main/java/CatalogueHarvester.java";
    // Such as "x.read(0); // 3: what the page has".
    private static final Pattern CALL_WITH_ANSWER = Pattern.compile("(x\\.(\\w+)\\(.*\\)); // ([^:]*)(: .*)?");

    private static int answers = 0;

    private ReadmeTest() {
    }

    public static void main(String[] args) throws Exception {
        List<String> readme = Files.readAllLines(Path.of("README.md"));
        Path directory = Files.createTempDirectory("readme");
        try {
            eachCallIsShown(blocks(readme, "java"));
            callsAnswerAsShown(blocks(readme, "java"), directory);
            commandsAreThoseOfTheProject(blocks(readme, "sh"), directory);
        } finally {
            removeAll(directory);
        }
        Check.end();
    }

    /** The lines of the blocks of a kind. */
    private static List<String> blocks(List<String> readme, String kind) {
        List<String> lines = new ArrayList<>();
        String inside = "";
        for (String line : readme) {
            if (line.startsWith("```")) {
                inside = line.substring(3);
            } else if (inside.equals(kind)) {
                lines.add(line);
            }
        }
        return lines;
    }

    private static void eachCallIsShown(List<String> lines) {
        TreeSet<String> shown = new TreeSet<>();
        for (String line : lines) {
            Matcher matcher = CALL_WITH_ANSWER.matcher(line);
            if (matcher.matches()) {
                shown.add(matcher.group(2));
            }
        }
        TreeSet<String> due = new TreeSet<>();
        for (Method method : CatalogueHarvester.class.getMethods()) {
            if (method.getDeclaringClass() == CatalogueHarvester.class) {
                due.add(method.getName());
            }
        }
        Check.same("README.md, the methods that are shown", shown, due);
    }

    private static void callsAnswerAsShown(List<String> lines, Path directory) throws Exception {
        Path file = directory.resolve("ReadmeCalls.java");
        Files.write(file, program(lines));
        String classPath = System.getProperty("java.class.path");
        int exit = start(Path.of(""), "javac", "-cp", classPath, "-d", directory.toString(), file.toString());
        Check.same("README.md, compiling its calls", exit, 0);
        if (exit == 0) {
            try (URLClassLoader loader = new URLClassLoader(new URL[] {directory.toUri().toURL()})) {
                loader.loadClass("ReadmeCalls").getMethod("run").invoke(null);
            }
            long due = lines.stream().filter(line -> CALL_WITH_ANSWER.matcher(line).matches()).count();
            Check.same("README.md, answers looked at", (long) answers, due);
        }
    }

    /** The lines as they stand; those with an answer hand it on to answers(..), with the call itself. */
    private static List<String> program(List<String> lines) {
        List<String> program = new ArrayList<>(List.of("public final class ReadmeCalls {",
            "public static void run() {"));
        for (String line : lines) {
            Matcher matcher = CALL_WITH_ANSWER.matcher(line);
            program.add(matcher.matches() ? "ReadmeTest.answers(\"" + matcher.group(1) + "\", () -> " + matcher.group(1)
                + ", \"" + matcher.group(3) + "\");" : line);
        }
        program.addAll(List.of("}", "}"));
        return program;
    }

    /** Called by the compiled lines. */
    public static void answers(String call, Callable<Object> made, String due) {
        String got;
        try {
            got = "" + made.call();
        } catch (Exception e) {
            got = "throws " + e.getClass().getSimpleName();
        }
        Check.same("README.md: " + call, got, due);
        answers++;
    }

    private static void commandsAreThoseOfTheProject(List<String> commands, Path directory) throws Exception {
        Check.same("README.md, its commands", commands, List.of("javac -d build " + MAIN, ".ci/run"));
        if (commands.size() == 2) {
            compilesTheClass(commands.get(0), directory);
            Check.same(commands.get(1) + " can be run", Files.isExecutable(Path.of(commands.get(1))), true);
        }
    }

    /** In a directory of its own, so that the project's is left as it is. */
    private static void compilesTheClass(String command, Path directory) throws Exception {
        Path copy = directory.resolve(MAIN);
        Files.createDirectories(copy.getParent());
        Files.copy(Path.of(MAIN), copy, StandardCopyOption.REPLACE_EXISTING);
        Check.same(command, start(directory, command.split(" ")), 0);
        Path compiled = directory.resolve("build").resolve("CatalogueHarvester.class");
        Check.same(command + " makes the class", Files.exists(compiled), true);
    }

    private static int start(Path directory, String... command) throws Exception {
        return new ProcessBuilder(Arrays.asList(command)).directory(directory.toAbsolutePath().toFile()).inheritIO()
            .start().waitFor();
    }

    private static void removeAll(Path directory) throws IOException {
        List<Path> paths;
        try (Stream<Path> walk = Files.walk(directory)) {
            paths = walk.sorted(Comparator.reverseOrder()).collect(Collectors.toList());
        }
        for (Path path : paths) {
            Files.delete(path);
        }
    }
}
