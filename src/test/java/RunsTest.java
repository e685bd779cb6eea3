import java.io.IOException;
import java.nio.file.Files;
import java.nio.file.Path;
import java.util.List;
import java.util.stream.Collectors;
import java.util.stream.Stream;

/**
 * Makes the calls of every file under src/test/runs and compares the answers. A line there is a call,
 * a tab and the answer that is due; a line end in an answer is written \n.
 */
public final class RunsTest {
    private static final Expect expect = new Expect("RunsTest");

    public static void main(String[] args) throws IOException {
        List<Path> files;
        try (Stream<Path> found = Files.list(Path.of("src/test/runs"))) {
            files = found.sorted().collect(Collectors.toList());
        }
        expect.same("there are runs", files.isEmpty(), false);
        for (Path file : files) {
            replay(file);
        }
        expect.end();
    }

    /** Up to the first answer that is not due: those behind it would tell nothing more. */
    private static void replay(Path file) throws IOException {
        Caller caller = new Caller();
        List<String> lines = Files.readAllLines(file);
        for (int i = 0; i < lines.size(); i++) {
            String[] parts = lines.get(i).split("\t", -1);
            String answer = caller.call(parts[0]).replace("\n", "\\n");
            expect.same(file + " line " + (i + 1) + " " + parts[0], answer, parts[1]);
            if (!answer.equals(parts[1])) {
                return;
            }
        }
    }
}
