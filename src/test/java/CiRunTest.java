import java.io.IOException;
import java.nio.file.Files;
import java.nio.file.Path;
import java.util.ArrayList;
import java.util.Comparator;
import java.util.List;
import java.util.stream.Stream;

/** The script .ci/run itself, on small projects of one test each: what it lets pass and what it refuses. */
public final class CiRunTest {
    private static final String SILENT = "public final class %s { public static void main(String[] a) { } }";
    private static final String SAYS =
            "public final class %s { public static void main(String[] a) { System.out.println(1); } }";
    private static final String FAILS =
            "public final class %s { public static void main(String[] a) { System.exit(1); } }";
    private static final String BROKEN = "public final class %s { int }";

    private record Small(String what, boolean passes, Path room, Process process) {
    }

    public static void main(String[] args) throws IOException, InterruptedException {
        Check.sentence(".ci/run", "run every test of the project, and every test under ../shared/tests");
        // All are begun before the first is waited for: most of their time is the start of javac.
        List<Small> begun = new ArrayList<>();
        begun.add(begin("a shared test that is well and prints nothing", SAYS, SILENT, true));
        begun.add(begin("a shared test that fails", SAYS, FAILS, false));
        begun.add(begin("a shared test that does not compile", SAYS, BROKEN, false));
        begun.add(begin("a test of the project that fails", FAILS, SILENT, false));
        for (Small small : begun) {
            Check.due(small.what, small.process.waitFor() == 0, small.passes);
            remove(small.room);
        }
        Check.end("CiRunTest");
    }

    private static Small begin(String what, String ownTest, String sharedTest, boolean passes) throws IOException {
        Path room = Files.createTempDirectory("ci-run");
        Path project = room.resolve("project");
        write(project.resolve("src/main/java"), "ShipSets", SILENT);
        write(project.resolve("src/test/java"), "SmallTest", ownTest);
        write(room.resolve("shared/tests"), "SharedRuns", sharedTest);
        Path script = Files.createDirectories(project.resolve(".ci")).resolve("run");
        Files.copy(Path.of(".ci/run"), script);
        Process process = new ProcessBuilder("bash", script.toString())
                .redirectOutput(ProcessBuilder.Redirect.DISCARD)
                .redirectError(ProcessBuilder.Redirect.DISCARD)
                .start();
        return new Small(what, passes, room, process);
    }

    private static void write(Path place, String name, String text) throws IOException {
        Files.createDirectories(place);
        Files.writeString(place.resolve(name + ".java"), text.formatted(name));
    }

    private static void remove(Path room) throws IOException {
        List<Path> all;
        try (Stream<Path> found = Files.walk(room)) {
            all = found.sorted(Comparator.reverseOrder()).toList();
        }
        for (Path path : all) {
            Files.delete(path);
        }
    }
}
