import java.lang.reflect.InvocationTargetException;
import java.lang.reflect.Method;
import java.util.Set;

/**
 * Runs a text of calls on a new house, a row each: a method, its numbers, "="
 * and the answer that is due. "text S" empties the text and types S instead.
 * "same" compares all that is told with what "mark" saw. What the document
 * says of all calls is looked at in each row: an error or NONE, and whatever
 * is only told, changes nothing (but for the latest stop of perform()).
 */
final class Script {
    private static final Set<String> CHANGING = Set.of("setUp", "carry", "face", "crow", "scare", "fill",
            "seats", "wind", "set", "vote", "pass", "perform", "undo", "restore", "type", "clearText");

    private final StrawHouse house = new StrawHouse();
    private final StringBuilder faults = new StringBuilder();
    private String marked = "";

    static void test(Report report, String name, String rows) {
        Script script = new Script();
        int number = 0;
        for (String row : rows.split("\n")) {
            number++;
            if (!row.isBlank()) {
                script.run(number, row.strip());
            }
        }
        report.tell(name, script.faults.toString());
    }

    private void run(int number, String row) {
        if (row.startsWith("text ")) {
            typeAll(row.substring(5));
        } else if (row.equals("mark")) {
            marked = state();
        } else if (row.equals("same")) {
            expect(number, "all that is told", state(), marked);
        } else {
            call(number, row);
        }
    }

    private void typeAll(String text) {
        house.clearText();
        for (char character : text.toCharArray()) {
            house.type(character);
        }
    }

    private void call(int number, String row) {
        String[] sides = row.split(" = ");
        String[] words = sides[0].trim().split(" +");
        String before = Told.of(house);
        double got = answer(words);
        expect(number, row, String.valueOf(got), String.valueOf(Double.parseDouble(sides[1].trim())));
        if (got < 0 || !CHANGING.contains(words[0])) {
            String after = Told.of(house);
            boolean stops = words[0].equals("perform");
            expect(number, row + " (what is told)", stops ? butStop(after) : after, stops ? butStop(before) : before);
        }
    }

    /** What a state is: neither the text and the history, which count in counts 14 and 15, nor the stop. */
    private String state() {
        return butStop(Told.of(house)).replaceFirst(" \\S+ \\S+\n", "\n");
    }

    private static String butStop(String told) {
        return told.substring(0, told.indexOf(" stop "));
    }

    private double answer(String[] words) {
        for (Method method : StrawHouse.class.getDeclaredMethods()) {
            if (method.getName().equals(words[0])) {
                return invoke(method, words);
            }
        }
        throw new IllegalArgumentException("no method " + words[0]);
    }

    private double invoke(Method method, String[] words) {
        Object[] values = new Object[words.length - 1];
        for (int i = 0; i < values.length; i++) {
            int value = Integer.parseInt(words[i + 1]);
            values[i] = method.getParameterTypes()[i] == char.class ? (Object) (char) value : (Object) value;
        }
        try {
            return ((Number) method.invoke(house, values)).doubleValue();
        } catch (IllegalAccessException | InvocationTargetException e) {
            throw new IllegalStateException(words[0], e);
        }
    }

    private void expect(int number, String what, String got, String due) {
        if (!got.equals(due)) {
            faults.append("    row ").append(number).append(": ").append(what).append(" answered ")
                    .append(got).append(", due is ").append(due).append('\n');
        }
    }
}
