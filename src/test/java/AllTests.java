import java.io.IOException;
import java.nio.file.Files;
import java.nio.file.Path;

/**
 * Runs every test of the project. Arguments: the program's source, the
 * document, the folder of the boundary tests, the readme, and a file for the
 * counts.
 */
public final class AllTests {
    private AllTests() {
    }

    public static void main(String[] args) throws IOException {
        Report report = new Report();
        FaceTest.run(report);
        LanguageTest.run(report, Path.of(args[0]));
        PromiseTests.run(report);
        BoundaryTests.run(report, Path.of(args[1]), Path.of(args[2]));
        ModelTest.run(report);
        ReadmeTest.run(report, Path.of(args[3]), Path.of(args[1]));
        Files.writeString(Path.of(args[4]), report.passed() + " " + report.failed() + "\n");
        System.exit(report.failed() == 0 ? 0 : 1);
    }
}
