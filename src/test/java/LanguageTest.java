import java.io.IOException;
import java.nio.file.Files;
import java.nio.file.Path;
import java.util.regex.Matcher;
import java.util.regex.Pattern;

/** Those rules of ../shared/LANGUAGE.md that can be seen in the text of the program. */
final class LanguageTest {
    private static final String[] RULED_OUT = {
        "\\bpackage\\b", "\\bimport\\s(?!java\\.util\\.(ArrayList|List|Iterator|Arrays|NoSuchElementException|\\*)\\s*;)",
        "\\bfinally\\b", "\\bsynchronized\\b", "\\bassert\\b", "\\bvolatile\\b", "\\bnative\\b", "try\\s*\\(",
        "::", "(?m)^(?!\\s*(case|default)\\b).*->", "\\w+Exact\\(", "\\bgetMessage\\b", "System\\s*\\.(?!\\s*arraycopy\\b)",
        "\\b(Thread|Random|HashMap|HashSet|Runtime|ProcessBuilder)\\b",
    };
    private static final int LONGEST_METHOD = 66;
    private static final int MOST_CLASSES = 14;

    private LanguageTest() {
    }

    static void run(Report report, Path source) throws IOException {
        String program = Files.readString(source);
        String code = program.replaceAll("(?s)/\\*.*?\\*/", "").replaceAll("//[^\n]*", "");
        StringBuilder faults = new StringBuilder();
        for (String pattern : RULED_OUT) {
            Matcher matcher = Pattern.compile(pattern).matcher(code);
            if (matcher.find()) {
                faults.append("    ").append(pattern).append(" stands in the program\n");
            }
        }
        report.tell("language: nothing that it rules out", faults.toString());
        report.tell("language: short methods", longMethods(program));
        report.tell("language: at most some twelve classes",
                code.split("\\bclass\\b").length - 1 <= MOST_CLASSES ? "" : "    too many\n");
        report.tell("language: signs 1 to 127",
                code.chars().allMatch(c -> c >= 1 && c <= 127) ? "" : "    another sign\n");
    }

    private static String longMethods(String program) {
        StringBuilder faults = new StringBuilder();
        String[] rows = program.split("\n");
        int start = 0;
        for (int i = 0; i < rows.length; i++) {
            if (rows[i].matches("\\s+(public|private).*\\).*\\{")) {
                start = i;
            }
            if (rows[i].matches("( {4}| {8})\\}") && i - start > LONGEST_METHOD && rows[start].indexOf('}') < 0
                    && rows[i].indexOf('}') == rows[start].indexOf('p')) {
                faults.append("    ").append(rows[start].strip()).append('\n');
            }
        }
        return faults.toString();
    }
}
