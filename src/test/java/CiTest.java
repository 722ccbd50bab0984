import java.io.File;
import java.io.IOException;
import java.nio.file.Files;
import java.nio.file.Path;
import java.util.Comparator;
import java.util.List;
import java.util.stream.Collectors;
import java.util.stream.Stream;

/**
 * Tries .ci/run on small projects of two tests, one of the project's own and one under
 * ../shared/tests: it must pass if both do, and fail if one of them fails or none is found.
 */
public final class CiTest {
    private static final Path PLACE = Path.of("build/ci");
    private static final String MAIN = "public final class PolyDrums { }\n";

    private static int wrong = 0;
    private static int checks = 0;

    public static void main(String[] args) throws IOException, InterruptedException {
        tryRun("both pass", true, "passed: src/test/java/Own.java", MAIN, test("Own", 0),
                test("Shared", 0));
        tryRun("a shared one is told", true, "passed: ../shared/tests/Shared.java", MAIN,
                test("Own", 0), test("Shared", 0));
        tryRun("its own fails", false, "FAILED: src/test/java/Own.java", MAIN, test("Own", 1),
                test("Shared", 0));
        tryRun("the shared one fails", false, "FAILED: ../shared/tests/Shared.java", MAIN,
                test("Own", 0), test("Shared", 1));
        tryRun("a test throws", false, "FAILED: src/test/java/Own.java", MAIN,
                test("Own", 0).replace("System", "if (a != null) throw new Error(); System"),
                test("Shared", 0));
        tryRun("a test does not compile", false, "FAILED: src/test/java/Own.java", MAIN,
                "public final class Own { int x = y; }\n", test("Shared", 0));
        tryRun("none of its own", false, "FAILED: no test", MAIN, null, test("Shared", 0));
        tryRun("no shared one", false, "FAILED: no test", MAIN, test("Own", 0), null);
        tryRun("no class", false, "PolyDrums does not compile", null, test("Own", 0),
                test("Shared", 0));
        tryRun("a warning", false, "PolyDrums does not compile",
                "public final class PolyDrums { int x = (int) 0; }\n", test("Own", 0),
                test("Shared", 0));
        System.out.println("CiTest: " + checks + " checks, " + wrong + " wrong");
        if (wrong != 0) {
            System.exit(1);
        }
    }

    private static void due(String what, Object want, Object got) {
        checks++;
        if (!want.equals(got)) {
            wrong++;
            System.out.println(".ci/run: " + what + ": found " + got + ", due is " + want);
        }
    }

    private static String test(String name, int exitCode) {
        return "public final class " + name + " {\n"
                + "    public static void main(String[] a) { System.exit(" + exitCode + "); }\n"
                + "}\n";
    }

    private static void tryRun(String what, boolean isPassed, String line, String main, String own,
            String shared) throws IOException, InterruptedException {
        clear();
        Path project = PLACE.resolve("main");
        write(project.resolve("src/main/java/PolyDrums.java"), main);
        write(project.resolve("src/test/java/Own.java"), own);
        write(PLACE.resolve("shared/tests/Shared.java"), shared);
        Path script = project.resolve(".ci/run");
        Files.createDirectories(script.getParent());
        Files.copy(Path.of(".ci/run"), script);
        File output = PLACE.resolve("output").toFile();
        // Called from elsewhere: it must find its project by itself.
        int code = new ProcessBuilder("bash", script.toAbsolutePath().toString())
                .directory(PLACE.toFile()).redirectErrorStream(true).redirectOutput(output)
                .start().waitFor();
        String printed = Files.readString(output.toPath());
        due(what + ", exit code 0", isPassed, code == 0);
        due(what + ", it prints " + line + ": " + printed, true, printed.contains(line));
    }

    private static void clear() throws IOException {
        if (!Files.exists(PLACE)) {
            return;
        }
        List<Path> old;
        try (Stream<Path> paths = Files.walk(PLACE)) {
            old = paths.sorted(Comparator.reverseOrder()).collect(Collectors.toList());
        }
        for (Path path : old) {
            Files.delete(path);
        }
    }

    private static void write(Path file, String text) throws IOException {
        Files.createDirectories(file.getParent());
        if (text != null) {
            Files.writeString(file, text);
        }
    }
}
