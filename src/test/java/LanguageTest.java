import java.io.IOException;
import java.nio.file.Files;
import java.nio.file.Path;
import java.util.regex.Matcher;
import java.util.regex.Pattern;

/** Those rules of ../shared/LANGUAGE.md that can be seen in the text of the program. */
final class LanguageTest {
    private static final String[] RULED_OUT = {
        "\\bimport\\b", "\\bpackage\\b", "\\bprotected\\b", "->", "::", "\\bfinally\\b", "\\btry\\b", "\\bcatch\\b",
        "\\bthrows?\\b", "\\bsynchronized\\b", "\\bassert\\b", "\\bvar\\b", "\\bnative\\b", "\\bvolatile\\b",
        "\\bObject\\b", "Exact\\(", "\\btoString\\b", "\\bhashCode\\b", "\\bequals\\b", "\\bwhile\\b",
        "static int\\[\\]", "Math\\.(?!min|max|abs|floor)", "System\\.(?!arraycopy)", "@", "\\\\u",
    };

    private LanguageTest() {
    }

    static void run(Report report, Path source) throws IOException {
        String program = Files.readString(source);
        String code = program.replaceAll("(?s)/\\*.*?\\*/", "").replaceAll("//[^\n]*", "");
        StringBuilder faults = new StringBuilder();
        for (String pattern : RULED_OUT) {
            Matcher matcher = Pattern.compile(pattern).matcher(code);
            if (matcher.find()) {
                faults.append("    ").append(pattern).append(" stands in the program\n");
            }
        }
        report.tell("language: nothing that it rules out", faults.toString());
        report.tell("language: short methods", longMethods(program));
        report.tell("language: at most twelve classes", code.split("\\bclass\\b").length - 1 <= 12 ? "" : "    too many\n");
        report.tell("language: signs 1 to 127",
                program.chars().allMatch(c -> c >= 1 && c <= 127) ? "" : "    another sign\n");
    }

    private static String longMethods(String program) {
        StringBuilder faults = new StringBuilder();
        String[] rows = program.split("\n");
        int start = 0;
        for (int i = 0; i < rows.length; i++) {
            if (rows[i].matches("\\s+(public|private).*\\).*\\{")) {
                start = i;
            }
            if (rows[i].matches("( {4}| {8})\\}") && i - start > 60 && rows[start].indexOf('}') < 0
                    && rows[i].indexOf('}') == rows[start].indexOf('p')) {
                faults.append("    ").append(rows[start].strip()).append('\n');
            }
        }
        return faults.toString();
    }
}
