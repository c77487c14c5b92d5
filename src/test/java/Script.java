import java.util.List;

/**
 * Runs rows of calls (the form is told in Step), and looks at each answer and
 * at what the call changed and did not change (Laws). "same" compares the
 * state with that at "mark". A run that starts with "bare" looks at answers alone:
 * it needs all calls of its house itself.
 */
final class Script {
    private final List<Step> steps;
    private final StringBuilder faults = new StringBuilder();
    private Look marked;

    private Script(List<Step> steps) {
        this.steps = steps;
    }

    static void test(Report report, String name, String rows) {
        report.tell(name, faultsOf(rows));
    }

    /** A line for each fault; a row that can't be read, or a call that throws, is one too. */
    static String faultsOf(String rows) {
        try {
            boolean bare = rows.strip().startsWith("bare\n");
            Script script = new Script(Step.of(bare ? rows.strip().substring(5) : rows));
            script.runAnswers();
            if (!bare && script.faults.length() == 0) {
                script.runLooks();
            }
            return script.faults.toString();
        } catch (RuntimeException e) {
            return "    threw " + e + "\n";
        }
    }

    private void runAnswers() {
        Caller caller = new Caller();
        for (int i = 0; i < steps.size(); i++) {
            double got = steps.get(i).run(caller);
            if (got != steps.get(i).due()) {
                faults.append("    row ").append(i + 1).append(": ").append(steps.get(i).row())
                        .append(": answered ").append(got).append('\n');
            }
        }
    }

    private void runLooks() {
        Look before = new Look(steps.subList(0, 0));
        for (int i = 0; i < steps.size(); i++) {
            Step step = steps.get(i);
            Look after = new Look(steps.subList(0, i + 1));
            if (step.name().equals("mark")) {
                marked = after;
            } else if (step.name().equals("same")) {
                expectMarked(i, after);
            } else if (!step.given()) {
                expect(i, Laws.broken(step, step.due(), before, after));
            }
            before = after;
        }
    }

    private void expectMarked(int i, Look look) {
        String due = marked.told().state();
        String got = look.told().state();
        expect(i, got.equals(due) ? "" : "      the state is\n" + got + "\n      due is\n" + due + "\n");
    }

    private void expect(int i, String fault) {
        if (!fault.isEmpty()) {
            faults.append("    row ").append(i + 1).append(": ").append(steps.get(i).row()).append('\n').append(fault);
        }
    }
}
