import java.util.List;
import java.util.Set;

/** What the document says of each call of a kind, looked at behind each row of a test. */
final class Laws {
    private static final Set<String> ACTS = Set.of("setUp", "carry", "face", "crow", "scare", "fill", "seats",
            "wind", "set", "vote", "pass", "perform", "restore");
    private static final int MOST_STATES = 4;
    private static final int NOT_POSSIBLE = -4;

    private final Look before;
    private final Look after;
    private final StringBuilder faults = new StringBuilder();

    private Laws(Look before, Look after) {
        this.before = before;
        this.after = after;
    }

    /** A line for each law that the call broke. */
    static String broken(Step step, double answer, Look before, Look after) {
        Laws laws = new Laws(before, after);
        laws.due("straw that is missing", after.told().missing(), 0);
        laws.due("both ways decide alike", after.told().decidesAlike(), true);
        if (answer < 0) {
            laws.changesNothing(step.name().equals("perform") && answer == NOT_POSSIBLE);
        } else if (ACTS.contains(step.name())) {
            laws.recordsOneState(step.name());
        } else {
            laws.isNoAct(step, (int) answer);
        }
        return laws.faults.toString();
    }

    private void due(String what, Object got, Object due) {
        if (!got.equals(due)) {
            faults.append("      ").append(what).append(" is\n").append(got).append("\n      due is\n").append(due)
                    .append('\n');
        }
    }

    private void changesNothing(boolean butTheStop) {
        sameState();
        sameText();
        sameHistory();
        sameSnapshot();
        if (!butTheStop) {
            sameStop();
        }
    }

    private void recordsOneState(String name) {
        int had = before.told().history();
        due("the states in the history", after.told().history(), Math.min(had + 1, MOST_STATES));
        due("the states that undo brings", after.undone().size(), Math.min(had + 1, MOST_STATES));
        due("what undo brings", withoutNumber(after.undone(), 0), before.told().state());
        for (int n = 1; n < after.undone().size(); n++) {
            due("what undo brings later", withoutNumber(after.undone(), n), withoutNumber(before.undone(), n - 1));
        }
        if (name.equals("restore")) {
            due("the state", after.told().state(), before.restored());
        }
        due("the length of the text", after.told().text(), before.told().text());
        sameSnapshot();
        sameStop();
    }

    private void isNoAct(Step step, int answer) {
        switch (step.name()) {
            case "undo": undoesOne(answer); break;
            case "keep": keepsOne(); break;
            case "type": changesText(answer); break;
            case "clearText": changesText(0); break;
            case "text": changesText(step.text().length()); break;
            default: changesNothing(false); break;
        }
    }

    private void undoesOne(int left) {
        due("the states in the history", after.told().history(), left);
        due("the states in the history", after.told().history(), before.told().history() - 1);
        due("the state", after.told().state(), withoutNumber(before.undone(), 0));
        due("the history", after.undone(), before.undone().subList(1, before.undone().size()));
        due("the length of the text", after.told().text(), before.told().text());
        sameSnapshot();
        sameStop();
    }

    private void keepsOne() {
        sameState();
        sameText();
        sameHistory();
        sameStop();
        due("the snapshot", after.restored(), before.told().state());
    }

    private void changesText(int length) {
        sameState();
        sameHistory();
        sameSnapshot();
        sameStop();
        due("the length of the text", after.told().text(), length);
    }

    private void sameState() {
        due("the state", after.told().state(), before.told().state());
    }

    private void sameText() {
        due("the length of the text", after.told().text(), before.told().text());
        due("what the text does", after.performed(), before.performed());
    }

    private void sameHistory() {
        due("the states in the history", after.told().history(), before.told().history());
        due("the history", after.undone(), before.undone());
    }

    private void sameSnapshot() {
        due("the snapshot", after.restored(), before.restored());
    }

    private void sameStop() {
        due("the latest stop", after.told().stop(), before.told().stop());
    }

    private static String withoutNumber(List<String> states, int n) {
        return n < states.size() ? states.get(n).substring(states.get(n).indexOf('\n') + 1) : "no state";
    }
}
