import java.io.IOException;
import java.nio.file.Files;
import java.nio.file.Path;
import java.util.ArrayList;
import java.util.List;
import java.util.Map;
import java.util.TreeMap;
import java.util.regex.Matcher;
import java.util.regex.Pattern;

/** README.md is true: its examples answer so, and its tables tell what the document tells. */
final class ReadmeTest {
    private static final Map<String, Integer> CONSTANTS = Map.of("UNKNOWN", StrawHouse.UNKNOWN,
            "BAD_VALUE", StrawHouse.BAD_VALUE, "FULL", StrawHouse.FULL,
            "NOT_POSSIBLE", StrawHouse.NOT_POSSIBLE, "NONE", StrawHouse.NONE);
    private static final Pattern BLOCK = Pattern.compile("(?s)```java\n(.*?)```");
    private static final Pattern CALL = Pattern.compile("house\\.(\\w+)\\((.*)\\); +// (-?[0-9.]*[0-9]|[A-Z_]+)(:.*)?");
    private static final Pattern TYPED = Pattern.compile("for \\(char c : \"(.*)\"\\.toCharArray\\(\\)\\) \\{ house\\.type\\(c\\); \\}");
    private static final Pattern ROW = Pattern.compile("(?m)^\\| `(\\w+\\(.*?\\))` \\| (\\w+) \\|.*\\|(.*)\\|$");
    private static final Pattern FACE = Pattern.compile("(?m)^    public (?:int|double) (\\w+)\\((.*)\\);$");
    private static final Pattern NAME = Pattern.compile("\\b(UNKNOWN|BAD_VALUE|FULL|NOT_POSSIBLE|NONE)\\b");

    private ReadmeTest() {
    }

    static void run(Report report, Path readme, Path document) throws IOException {
        String text = Files.readString(readme);
        String promises = Files.readString(document);
        Matcher block = BLOCK.matcher(text);
        int blocks = 0;
        while (block.find()) {
            blocks++;
            report.tell("readme: example " + blocks, wrongAnswers(block.group(1)));
        }
        report.tell("readme: it has examples", blocks > 0 ? "" : "    none\n");
        report.tell("readme: the constants", wrongConstants(text));
        report.tell("readme: each call, whether it is an act, and its errors in their order",
                difference(calls(text), promised(promises)));
    }

    private static String wrongAnswers(String rows) {
        StringBuilder faults = new StringBuilder();
        Caller caller = null;
        for (String row : rows.split("\n")) {
            Matcher call = CALL.matcher(row);
            Matcher typed = TYPED.matcher(row);
            if (row.equals("StrawHouse house = new StrawHouse();")) {
                caller = new Caller();
            } else if (caller != null && typed.matches()) {
                type(caller, typed.group(1));
            } else if (caller == null || !call.matches() || answer(caller, call) != due(call.group(3))) {
                faults.append("    ").append(row).append('\n');
            }
        }
        return faults.toString();
    }

    private static void type(Caller caller, String text) {
        for (char character : text.toCharArray()) {
            caller.call("type", character);
        }
    }

    private static double answer(Caller caller, Matcher call) {
        String[] words = call.group(2).isEmpty() ? new String[0] : call.group(2).split(", ");
        int[] values = new int[words.length];
        for (int i = 0; i < words.length; i++) {
            values[i] = Integer.parseInt(words[i]);
        }
        return caller.call(call.group(1), values);
    }

    private static double due(String word) {
        return CONSTANTS.containsKey(word) ? CONSTANTS.get(word) : Double.parseDouble(word);
    }

    private static String wrongConstants(String readme) {
        StringBuilder faults = new StringBuilder();
        for (String name : CONSTANTS.keySet()) {
            if (!readme.contains("| `" + name + "` | " + CONSTANTS.get(name) + " |")) {
                faults.append("    ").append(name).append(" is not told, or with another value\n");
            }
        }
        return faults.toString();
    }

    /** By each call with its arguments: whether the tables call it an act, and the constants of the last column. */
    private static Map<String, String> calls(String readme) {
        Map<String, String> calls = new TreeMap<>();
        Matcher row = ROW.matcher(readme);
        while (row.find()) {
            String errors = row.group(3).replaceAll("\\(.*?\\)", "");
            String other = calls.put(row.group(1), told(row.group(2).equals("act"), errors));
            if (other != null) {
                calls.put(row.group(1), "told twice");
            }
        }
        return calls;
    }

    /** The same, as the face and the promises of the document tell it. */
    private static Map<String, String> promised(String document) {
        Map<String, String> calls = new TreeMap<>();
        Matcher face = FACE.matcher(document);
        while (face.find()) {
            String arguments = face.group(2).replaceAll("\\b(int|char) ", "");
            calls.put(face.group(1) + "(" + arguments + ")", promise(document, face.group(1)));
        }
        return calls;
    }

    private static String promise(String document, String name) {
        Matcher section = Pattern.compile("(?ms)^## Promise \\d+: " + name + "\n(.*?)^## ").matcher(document);
        if (!section.find()) {
            return "no promise";
        }
        Matcher returns = Pattern.compile("(?m)^Returns (.*)$").matcher(section.group(1));
        boolean act = section.group(1).matches("(?s).*This is (an|one) act\\..*");
        return told(act, returns.find() ? returns.group(1) : "");
    }

    private static String told(boolean act, String errors) {
        List<String> names = new ArrayList<>();
        Matcher name = NAME.matcher(errors);
        while (name.find()) {
            names.add(name.group());
        }
        return (act ? "an act " : "no act ") + names;
    }

    private static String difference(Map<String, String> got, Map<String, String> due) {
        StringBuilder faults = new StringBuilder();
        for (String call : due.keySet()) {
            if (!due.get(call).equals(got.get(call))) {
                faults.append("    ").append(call).append(": ").append(got.get(call)).append(", due is ")
                        .append(due.get(call)).append('\n');
            }
        }
        for (String call : got.keySet()) {
            if (!due.containsKey(call)) {
                faults.append("    ").append(call).append(" is no call of the face\n");
            }
        }
        return faults.toString();
    }
}
