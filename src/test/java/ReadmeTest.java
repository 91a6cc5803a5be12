import java.io.IOException;
import java.lang.reflect.Method;
import java.nio.file.Files;
import java.nio.file.Path;
import java.util.ArrayList;
import java.util.Comparator;
import java.util.List;
import java.util.regex.Matcher;
import java.util.regex.Pattern;
import java.util.stream.Stream;

/** What README.md says is so when it is tried: its commands, its example, its list of calls, its list of tests. */
public final class ReadmeTest {
    private static final Path MAIN = Path.of("src/main/java/AidRows.java");
    private static final Path TESTS = Path.of("src/test/java");
    private static final Pattern PRINTED = Pattern.compile("System\\.out\\.println\\(.*\\);\\s+// (\\S+)$");
    private static final Pattern CALL_ROW = Pattern.compile("\\| `(\\w+)\\(([^)]*)\\)` \\|[^|]*\\|([^|]*)\\|");

    public static void main(String[] args) throws IOException, InterruptedException {
        String readme = Files.readString(Path.of("README.md"));
        exampleAnswersAsItSays(readme);
        everyCallHasItsRow(readme);
        everyTestIsNamed(readme);
        Check.finish();
    }

    /** The commands run where nothing is but the class and the example, as they would for a reader. */
    private static void exampleAnswersAsItSays(String readme) throws IOException, InterruptedException {
        String example = String.join("\n", blocks(readme, "java"));
        Path place = Files.createTempDirectory("readme");
        try {
            Files.createDirectories(place.resolve(MAIN).getParent());
            Files.copy(MAIN, place.resolve(MAIN));
            Files.writeString(place.resolve("Example.java"), example);
            List<String> printed = new ArrayList<>();
            for (String commands : blocks(readme, "sh")) {
                if (!commands.contains(".ci/run")) {
                    printed.addAll(run(place, commands));
                }
            }
            List<String> due = saidToBePrinted(example);
            if (due.isEmpty() || !printed.equals(due)) {
                Check.fail("the example prints " + printed + ", README.md says " + due);
            }
        } finally {
            remove(place);
        }
    }

    private static List<String> blocks(String readme, String language) {
        List<String> found = new ArrayList<>();
        Matcher block = Pattern.compile("^```" + language + "\n(.*?)^```$", Pattern.DOTALL | Pattern.MULTILINE)
                .matcher(readme);
        while (block.find()) {
            found.add(block.group(1));
        }
        if (found.isEmpty()) {
            Check.fail("README.md has no part in " + language);
        }
        return found;
    }

    private static List<String> run(Path place, String commands) throws IOException, InterruptedException {
        Process process = new ProcessBuilder("sh", "-e", "-c", commands)
                .directory(place.toFile()).redirectErrorStream(true).start();
        List<String> lines = new String(process.getInputStream().readAllBytes()).lines().toList();
        Check.same("exit code of " + commands.strip(), process.waitFor(), 0);
        return lines;
    }

    private static List<String> saidToBePrinted(String example) {
        List<String> due = new ArrayList<>();
        for (String line : example.lines().toList()) {
            Matcher printed = PRINTED.matcher(line);
            if (printed.find()) {
                due.add(printed.group(1));
            }
        }
        return due;
    }

    private static void remove(Path place) throws IOException {
        try (Stream<Path> all = Files.walk(place)) {
            for (Path path : all.sorted(Comparator.reverseOrder()).toList()) {
                Files.delete(path);
            }
        }
    }

    private static void everyCallHasItsRow(String readme) {
        List<String> due = new ArrayList<>();
        for (Method method : AidRows.class.getDeclaredMethods()) {
            if (java.lang.reflect.Modifier.isPublic(method.getModifiers())) {
                List<String> thrown = Stream.of(method.getExceptionTypes())
                        .map(type -> type.getSimpleName().replace("Exception", "")).toList();
                due.add(method.getName() + " " + method.getParameterCount() + " " + String.join(", ", thrown));
            }
        }
        List<String> got = new ArrayList<>();
        Matcher row = CALL_ROW.matcher(readme);
        while (row.find()) {
            got.add(row.group(1) + " " + row.group(2).split(",").length + " " + row.group(3).strip());
        }
        due.sort(null);
        got.sort(null);
        if (!got.equals(due)) {
            Check.fail("README.md lists the calls " + got + ", due is " + due);
        }
    }

    private static void everyTestIsNamed(String readme) throws IOException {
        try (Stream<Path> files = Files.list(TESTS)) {
            for (Path file : files.toList()) {
                String name = file.getFileName().toString().replace(".java", "");
                boolean inTheRange = name.matches("Promise(0[2-9]|1[0-5])Test");
                if (name.endsWith("Test") && !inTheRange && !readme.contains(name)) {
                    Check.fail("README.md does not name " + name);
                }
            }
        }
    }
}
