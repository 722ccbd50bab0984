import java.io.File;
import java.io.IOException;
import java.nio.file.Files;
import java.nio.file.Path;
import java.nio.file.attribute.PosixFilePermission;
import java.util.ArrayList;
import java.util.Comparator;
import java.util.List;
import java.util.regex.Matcher;
import java.util.regex.Pattern;
import java.util.stream.Collectors;
import java.util.stream.Stream;

/**
 * Tries what README.md says: its program is put beside a copy of src, its commands are run there
 * as they stand on the page, and what is printed must be what the page shows.
 */
public final class ReadmeTest {
    private static final Path PLACE = Path.of("build/readme");
    private static final Path TESTS = Path.of("src/test/java");

    private static String readme;
    private static int wrong = 0;
    private static int checks = 0;

    public static void main(String[] args) throws IOException, InterruptedException {
        readme = Files.readString(Path.of("README.md"));
        copySource();
        theProgram();
        oneTestAlone();
        allTests();
        thePathsItNames();
        System.out.println("ReadmeTest: " + checks + " checks, " + wrong + " wrong");
        if (wrong != 0) {
            System.exit(1);
        }
    }

    private static void due(String what, Object want, Object got) {
        checks++;
        if (!want.equals(got)) {
            wrong++;
            System.out.println("README.md: " + what + ": found " + got + ", due is " + want);
        }
    }

    private static void copySource() throws IOException {
        if (Files.exists(PLACE)) {
            for (Path old : below(PLACE, Comparator.reverseOrder())) {
                Files.delete(old);
            }
        }
        for (Path path : below(Path.of("src"), Comparator.naturalOrder())) {
            Path copy = PLACE.resolve(path);
            Files.createDirectories(copy.getParent());
            Files.copy(path, copy);
        }
    }

    private static List<Path> below(Path top, Comparator<Path> order) throws IOException {
        try (Stream<Path> paths = Files.walk(top)) {
            return paths.sorted(order).collect(Collectors.toList());
        }
    }

    private static List<String> blocks(String kind) {
        List<String> found = new ArrayList<>();
        Matcher block = Pattern.compile("```" + kind + "\n(.*?)```", Pattern.DOTALL)
                .matcher(readme);
        while (block.find()) {
            found.add(block.group(1));
        }
        return found;
    }

    /** What the commands print, with their exit code behind it. */
    private static String run(String commands) throws IOException, InterruptedException {
        File output = PLACE.resolve("output").toFile();
        Process process = new ProcessBuilder("sh", "-e", "-c", commands)
                .directory(PLACE.toFile()).redirectOutput(output)
                .redirectError(ProcessBuilder.Redirect.INHERIT).start();
        int code = process.waitFor();
        return Files.readString(output.toPath()) + "exit code " + code;
    }

    private static void theProgram() throws IOException, InterruptedException {
        due("programs shown", 1, blocks("java").size());
        due("outputs shown", 1, blocks("text").size());
        Files.writeString(PLACE.resolve("Beat.java"), blocks("java").get(0));
        due("what its program prints", blocks("text").get(0) + "exit code 0",
                run(blocks("sh").get(0)));
    }

    private static void oneTestAlone() throws IOException, InterruptedException {
        String printed = run(blocks("sh").get(2));
        due("one test alone: " + printed, true,
                printed.matches("PromiseTest: \\d+ checks, 0 wrong\nexit code 0"));
    }

    private static void allTests() throws IOException {
        due("how all tests are run", ".ci/run\n", blocks("sh").get(1));
        due(".ci/run can be run", true, Files.getPosixFilePermissions(Path.of(".ci/run"))
                .contains(PosixFilePermission.OWNER_EXECUTE));
        for (Path test : below(TESTS, Comparator.naturalOrder())) {
            String name = test.getFileName().toString();
            if (name.endsWith(".java")) {
                due("it names " + name, true,
                        readme.contains("`" + name.substring(0, name.length() - 5) + "`"));
            }
        }
        Matcher named = Pattern.compile("`([A-Z]\\w+Test)`").matcher(readme);
        while (named.find()) {
            due("it names " + named.group(1), true,
                    Files.exists(TESTS.resolve(named.group(1) + ".java")));
        }
    }

    private static void thePathsItNames() {
        Matcher named = Pattern.compile("`([\\w./]*/[\\w./]+)`").matcher(readme);
        while (named.find()) {
            due("it names " + named.group(1), true, Files.exists(Path.of(named.group(1))));
        }
    }
}
