import java.io.File;
import java.io.IOException;
import java.lang.reflect.Method;
import java.lang.reflect.Modifier;
import java.nio.charset.StandardCharsets;
import java.nio.file.Files;
import java.nio.file.Path;
import java.util.ArrayList;
import java.util.List;
import java.util.TreeSet;
import java.util.regex.Matcher;
import java.util.regex.Pattern;
import java.util.stream.Collectors;
import java.util.stream.Stream;

/** What README.md says of how to use the class and how to run its tests holds as it stands there. */
public final class ReadmeTest {
    private static final Path TESTS = Path.of("src/test/java");

    public static void main(String[] args) throws Exception {
        String readme = Files.readString(Path.of("README.md"));
        Path checkout = copyOfSources();
        try {
            theExamplePrintsWhatIsSaid(readme, checkout);
            oneTestAloneRuns(readme, checkout);
        } finally {
            delete(checkout);
        }
        allTestsRunByOneScript(readme);
        everyCallIsListed(readme);
        noOtherCallIsListed(readme);
        everyTestIsListed(readme);
        noOtherTestIsListed(readme);
        Due.end();
    }

    private static void theExamplePrintsWhatIsSaid(String readme, Path checkout) throws Exception {
        Files.writeString(checkout.resolve("Example.java"), blocks(readme, "java").get(0));
        String printed = printedBy(blocks(readme, "sh").get(0), checkout);
        Due.holds("the example prints what README.md says, not\n" + printed,
            printed.equals(blocks(readme, "text").get(0)));
    }

    private static void oneTestAloneRuns(String readme, Path checkout) throws Exception {
        String printed = printedBy(blocks(readme, "sh").get(1), checkout);
        Due.holds("one test alone runs, and prints\n" + printed,
            printed.matches("[1-9]\\d* answers are as due\n"));
    }

    private static void allTestsRunByOneScript(String readme) {
        Due.holds("README.md names .ci/run", readme.contains("\n    .ci/run\n"));
        Due.holds(".ci/run can be run", Files.isExecutable(Path.of(".ci/run")));
    }

    private static void everyCallIsListed(String readme) {
        TreeSet<String> listed = listedCalls(readme);
        for (String call : callsOfTheClass()) {
            Due.holds(call + " is in the table of calls", listed.contains(call));
        }
    }

    private static void noOtherCallIsListed(String readme) {
        TreeSet<String> calls = callsOfTheClass();
        for (String call : listedCalls(readme)) {
            Due.holds(call + " is a call of the class", calls.contains(call));
        }
    }

    private static void everyTestIsListed(String readme) throws IOException {
        for (String name : namesOfTestFiles()) {
            Due.holds(name + " is in README.md", readme.contains("`" + name + "`"));
        }
    }

    private static void noOtherTestIsListed(String readme) throws IOException {
        Matcher m = Pattern.compile("`(\\w+Test)`").matcher(readme);
        while (m.find()) {
            Due.holds(m.group(1) + " is a test", namesOfTestFiles().contains(m.group(1)));
        }
    }

    /** What stands between fences of one kind. */
    private static List<String> blocks(String readme, String kind) {
        List<String> blocks = new ArrayList<>();
        Matcher m = Pattern.compile("(?s)```" + kind + "\n(.*?)```").matcher(readme);
        while (m.find()) {
            blocks.add(m.group(1));
        }
        return blocks;
    }

    /** Each call as its name and how many arguments it takes: place/2. */
    private static TreeSet<String> callsOfTheClass() {
        TreeSet<String> calls = new TreeSet<>();
        for (Method method : SignCharts.class.getDeclaredMethods()) {
            if (Modifier.isPublic(method.getModifiers())) {
                calls.add(method.getName() + "/" + method.getParameterCount());
            }
        }
        return calls;
    }

    private static TreeSet<String> listedCalls(String readme) {
        TreeSet<String> calls = new TreeSet<>();
        Matcher m = Pattern.compile("(?m)^\\| `(\\w+)\\(([^)]*)\\)` \\|").matcher(readme);
        while (m.find()) {
            int arguments = m.group(2).isEmpty() ? 0 : m.group(2).split(", ").length;
            calls.add(m.group(1) + "/" + arguments);
        }
        return calls;
    }

    private static List<String> namesOfTestFiles() throws IOException {
        try (Stream<Path> files = Files.list(TESTS)) {
            return files.map(f -> f.getFileName().toString()).filter(n -> n.endsWith(".java"))
                .map(n -> n.substring(0, n.length() - ".java".length())).sorted()
                .collect(Collectors.toList());
        }
    }

    /** The commands are run in a copy, so that they leave nothing in the checkout. */
    private static Path copyOfSources() throws IOException {
        Path copy = Files.createTempDirectory("readme");
        Path main = Files.createDirectories(copy.resolve("src/main/java"));
        Files.copy(Path.of("src/main/java/SignCharts.java"), main.resolve("SignCharts.java"));
        Path tests = Files.createDirectories(copy.resolve(TESTS));
        for (String name : namesOfTestFiles()) {
            Files.copy(TESTS.resolve(name + ".java"), tests.resolve(name + ".java"));
        }
        return copy;
    }

    private static String printedBy(String commands, Path where) throws Exception {
        Process shell = new ProcessBuilder("sh", "-e", "-c", commands).directory(where.toFile())
            .redirectError(ProcessBuilder.Redirect.INHERIT).start();
        shell.getOutputStream().close();
        String printed = new String(shell.getInputStream().readAllBytes(), StandardCharsets.UTF_8);
        Due.is("exit code of\n" + commands + printed, shell.waitFor(), 0);
        return printed;
    }

    private static void delete(Path directory) throws IOException {
        try (Stream<Path> files = Files.walk(directory)) {
            List<File> inside = files.map(Path::toFile).collect(Collectors.toList());
            for (int i = inside.size() - 1; i >= 0; i--) {
                inside.get(i).delete();
            }
        }
    }
}
