import java.io.IOException;
import java.io.UncheckedIOException;
import java.nio.file.Files;
import java.nio.file.Path;
import java.util.ArrayList;
import java.util.Comparator;
import java.util.List;
import java.util.Set;
import java.util.TreeSet;
import java.util.regex.MatchResult;
import java.util.regex.Pattern;
import java.util.stream.Collectors;
import java.util.stream.Stream;

/**
 * README.md tried as it is written: its example is compiled and prints what stands behind its calls, its
 * commands end well, and its table names each test. All in a copy of the project, so that nothing is left in it.
 */
public final class ReadmeTest {
    private static final Path README = Path.of("README.md");
    private static final Path TESTS = Path.of("src/test/java");
    /** It runs this very test, so it is not run by it. */
    private static final String ALL_TESTS = ".ci/run";
    private static final Pattern BLOCK = Pattern.compile("(?ms)^```(\\w+)\n(.*?)^```$");
    private static final Pattern CLASS = Pattern.compile("public final class (\\w+)");
    private static final Pattern PRINTED = Pattern.compile("System\\.out\\.println\\(.*\\); *// ([^:\n]+): ");

    private static int made = 0;
    private static int wrong = 0;

    public static void main(String[] args) throws IOException, InterruptedException {
        String page = Files.readString(README);
        tableNamesAllTests(page);
        must(Files.isExecutable(Path.of(ALL_TESTS)), ALL_TESTS + " can be run");
        Path room = Files.createTempDirectory("readme");
        try {
            tryIn(copyOfProject(room), page);
        } finally {
            clearAway(room);
        }
        System.out.println(made + " things tried, " + wrong + " not as README.md says");
        if (wrong > 0) {
            System.exit(1);
        }
    }

    private static void must(boolean holds, String what) {
        made++;
        if (!holds) {
            wrong++;
            System.out.println("README.md: does not hold: " + what);
        }
    }

    private static void tableNamesAllTests(String page) throws IOException {
        Set<String> told = Pattern.compile("`(\\w+Test)`").matcher(page).results().map(one -> one.group(1)).collect(Collectors.toCollection(TreeSet::new));
        Set<String> there = new TreeSet<>();
        for (Path file : filesUnder(TESTS)) {
            String name = file.getFileName().toString();
            if (name.endsWith("Test.java")) {
                there.add(name.replace(".java", ""));
            }
        }
        must(told.equals(there), "the tests are " + told + ", there are " + there);
    }

    private static List<Path> filesUnder(Path start) throws IOException {
        try (Stream<Path> all = Files.walk(start)) {
            return all.filter(Files::isRegularFile).collect(Collectors.toList());
        }
    }

    /** The project and, beside it, what it finds at ../shared. */
    private static Path copyOfProject(Path room) throws IOException {
        Path copy = Files.createDirectory(room.resolve("main"));
        Files.createSymbolicLink(room.resolve("shared"), Path.of("../shared").toRealPath());
        for (Path file : filesUnder(Path.of("src"))) {
            Files.createDirectories(copy.resolve(file).getParent());
            Files.copy(file, copy.resolve(file));
        }
        Files.createDirectory(copy.resolve("out"));
        return copy;
    }

    private static void clearAway(Path room) throws IOException {
        try (Stream<Path> all = Files.walk(room)) {
            all.sorted(Comparator.reverseOrder()).forEach(ReadmeTest::remove);
        }
    }

    private static void remove(Path file) {
        try {
            Files.delete(file);
        } catch (IOException kept) {
            throw new UncheckedIOException(kept);
        }
    }

    private static void tryIn(Path copy, String page) throws IOException, InterruptedException {
        List<String> due = new ArrayList<>();
        String example = "";
        int commands = 0;
        for (MatchResult block : BLOCK.matcher(page).results().collect(Collectors.toList())) {
            if (block.group(1).equals("java")) {
                example = CLASS.matcher(block.group(2)).results().findFirst().map(one -> one.group(1)).orElse("");
                Files.writeString(copy.resolve("out").resolve(example + ".java"), block.group(2));
                PRINTED.matcher(block.group(2)).results().forEach(one -> due.add(one.group(1)));
                must(due.size() == block.group(2).split("println").length - 1, "each call that prints has its answer behind it");
            }
            for (String command : block.group(1).equals("sh") ? block.group(2).split("\n") : new String[0]) {
                if (!command.equals(ALL_TESTS)) {
                    commands++;
                    List<String> printed = run(copy, command);
                    must(!command.endsWith(" " + example) || printed.equals(due), "the example prints " + due + ", it printed " + printed);
                }
            }
        }
        must(commands > 0 && !due.isEmpty(), "there is an example, and there are commands");
    }

    private static List<String> run(Path copy, String command) throws IOException, InterruptedException {
        Process process = new ProcessBuilder("bash", "-c", command).directory(copy.toFile()).redirectErrorStream(true).start();
        process.getOutputStream().close();
        List<String> printed = new String(process.getInputStream().readAllBytes()).lines().collect(Collectors.toList());
        boolean well = process.waitFor() == 0;
        must(well, command);
        if (!well) {
            printed.forEach(System.out::println);
        }
        return printed;
    }
}
