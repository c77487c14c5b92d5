import java.io.IOException;
import java.nio.file.Files;
import java.nio.file.Path;
import java.util.ArrayList;
import java.util.HashSet;
import java.util.List;
import java.util.Set;
import java.util.stream.Collectors;
import java.util.stream.Stream;

/**
 * A test for each boundary case that a sentence of the document names, read
 * from src/test/boundaries:
 *
 *   = Promise 2: setUp     the heading under which the sentence stands, and
 *                          behind " / " words in capitals, if it has some
 *   > FULL if there are 12 the sentence, or a part of it, word by word
 *   * there are 11         the case: a test of its own; its rows follow (see Step)
 *   ! In a tick:           a sentence that names no case
 *   // ...                 a comment
 *
 * One more test looks whether all that is quoted stands in the document, and
 * one whether each sentence of the document is quoted.
 */
final class BoundaryTests {
    private final Report report;
    private final Sentences document;
    private final Set<String> names = new HashSet<>();
    private final List<String> quotes = new ArrayList<>();
    private final StringBuilder faults = new StringBuilder();
    private String heading = "";
    private String sentence = "";
    private String name = "";
    private StringBuilder rows = new StringBuilder();

    private BoundaryTests(Report report, Sentences document) {
        this.report = report;
        this.document = document;
    }

    static void run(Report report, Path document, Path folder) throws IOException {
        BoundaryTests tests = new BoundaryTests(report, new Sentences(Files.readString(document)));
        try (Stream<Path> files = Files.list(folder)) {
            for (Path file : files.sorted().collect(Collectors.toList())) {
                tests.runFile(file);
            }
        }
        report.tell("boundaries: what is quoted stands in the document", tests.faults.toString());
        report.tell("boundaries: each sentence of the document is quoted", tests.document.unquoted(tests.quotes));
    }

    private void runFile(Path file) throws IOException {
        for (String line : Files.readAllLines(file)) {
            if (line.startsWith("//")) {
                continue;
            }
            if (line.matches("[=>*!] .*")) {
                finishTest();
                start(line.charAt(0), line.substring(2));
            } else {
                rows.append(line).append('\n');
            }
        }
        finishTest();
    }

    private void start(char sign, String text) {
        switch (sign) {
            case '=': heading = text; sentence = ""; break;
            case '>': sentence = text; quote(text); break;
            case '!': quote(text); break;
            default: name = heading + ": \"" + sentence + "\": " + text; break;
        }
    }

    private void quote(String text) {
        String section = heading.split(" / ")[0];
        quotes.add(section + "\n" + text);
        if (!document.has(section, text)) {
            faults.append("    not under ").append(heading).append(": ").append(text).append('\n');
        }
    }

    private void finishTest() {
        if (!name.isEmpty()) {
            boolean fresh = names.add(name) && !sentence.isEmpty() && !rows.toString().isBlank();
            report.tell(name, fresh ? Script.faultsOf(rows.toString()) : "    no rows, no sentence, or the name again\n");
        }
        name = "";
        rows = new StringBuilder();
    }
}
