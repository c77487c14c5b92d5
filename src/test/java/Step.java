import java.util.ArrayList;
import java.util.List;

/**
 * One row of a run: a method, its numbers, "=" and the answer that is due.
 * "text S" empties the text and types S; "mark" and "same" call nothing.
 * A given step only leads to what a test looks at.
 */
record Step(String row, String name, int[] values, double due, String text, boolean given) {

    /** What tests start from often, a name for many rows. */
    private static final String LIVED = """
            setUp 0 2 3 1 = 0
            setUp 1 5 9 2 = 1
            seats 1 9 = 1
            crow 0 3 = 1
            crow 1 2 = 1
            wind 3 4 = 0
            keep = 0
            pass 3 = 2
            fill 0 1 = 1
            vote = 2
            text c2:0
            perform = -4
            text v;.1
            """;

    static List<Step> of(String rows) {
        List<Step> steps = new ArrayList<>();
        for (String row : rows.split("\n")) {
            if (!row.isBlank()) {
                add(steps, row.strip(), false);
            }
        }
        return steps;
    }

    private static void add(List<Step> steps, String row, boolean given) {
        String[] words = row.split(" +");
        switch (words[0]) {
            case "lived": addGiven(steps, LIVED); break;
            case "twelve": addGiven(steps, twelve()); break;
            case "crows": addGiven(steps, crows(words)); break;
            case "tick": addGiven(steps, tick(Integer.parseInt(words[1]))); break;
            case "times": addTimes(steps, row); break;
            default: steps.add(one(row, given)); break;
        }
    }

    private static void addGiven(List<Step> steps, String rows) {
        for (String row : rows.strip().split("\n")) {
            add(steps, row.strip(), true);
        }
    }

    /** "times N: row; row": these rows N times, given. */
    private static void addTimes(List<Step> steps, String row) {
        int colon = row.indexOf(':');
        int times = Integer.parseInt(row.substring("times ".length(), colon));
        for (int n = 0; n < times; n++) {
            addGiven(steps, row.substring(colon + 1).replace(';', '\n'));
        }
    }

    /** Two in each field. */
    private static String twelve() {
        StringBuilder rows = new StringBuilder();
        for (int s = 0; s < 12; s++) {
            rows.append("setUp ").append(s % 6).append(" 1 1 0 = ").append(s).append('\n');
        }
        return rows.toString();
    }

    /** "crows S W A B": crows come to S for the way W, from the Ath to the Bth that sits there. */
    private static String crows(String[] words) {
        StringBuilder rows = new StringBuilder();
        for (int n = Integer.parseInt(words[3]); n <= Integer.parseInt(words[4]); n++) {
            rows.append("crow ").append(words[1]).append(' ').append(words[2]).append(" = ").append(n).append('\n');
        }
        return rows.toString();
    }

    /** "tick T": ticks pass from tick 0 to T; none may turn in them. */
    private static String tick(int tick) {
        StringBuilder rows = new StringBuilder("text .99" + ";.99".repeat(14) + "\n");
        rows.append("perform = 15\n".repeat(tick / (15 * 99)));
        int rest = tick % (15 * 99);
        rows.append("pass 99 = 0\n".repeat(rest / 99));
        return rows.append(rest % 99 == 0 ? "" : "pass " + rest % 99 + " = 0\n").append("clearText = 59\n").toString();
    }

    private static Step one(String row, boolean given) {
        if (row.startsWith("text ") || row.equals("text")) {
            return new Step(row, "text", new int[0], 0, row.substring(4).strip(), given);
        }
        if (row.equals("mark") || row.equals("same")) {
            return new Step(row, row, new int[0], 0, "", given);
        }
        String[] sides = row.split(" = ");
        String[] words = sides[0].strip().split(" +");
        int[] values = new int[words.length - 1];
        for (int i = 0; i < values.length; i++) {
            values[i] = Integer.parseInt(words[i + 1]);
        }
        return new Step(row, words[0], values, Double.parseDouble(sides[1].strip()), "", given);
    }

    /** Makes the calls of this row; answers what is due where it is none that answers. */
    double run(Caller caller) {
        switch (name) {
            case "mark":
            case "same": return due;
            case "text": caller.typeAnew(text); return due;
            default: return caller.call(name, values);
        }
    }
}
