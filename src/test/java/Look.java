import java.util.ArrayList;
import java.util.List;

/**
 * What can be learned of a house behind a run of calls: what it tells, and by
 * new houses that make the same calls again, what undo(), restore() and
 * perform() would bring, so that history, snapshot and text are seen too.
 */
final class Look {
    private static final int MOST_STATES = 4;

    private final List<Step> run;
    private Told told;
    private List<String> undone;
    private String restored;
    private String performed;

    Look(List<Step> run) {
        this.run = run;
    }

    private Caller again() {
        Caller caller = new Caller();
        for (Step step : run) {
            step.run(caller);
        }
        return caller;
    }

    Told told() {
        if (told == null) {
            told = Told.by(again());
        }
        return told;
    }

    /** The states that one undo() would bring, and two, as far as the history goes. */
    List<String> undone() {
        if (undone == null) {
            undone = new ArrayList<>();
            for (int many = 1; many <= MOST_STATES + 1; many++) {
                addUndone(many);
            }
        }
        return undone;
    }

    private void addUndone(int many) {
        Caller caller = again();
        double left = 0;
        for (int n = 0; n < many; n++) {
            left = caller.call("undo");
        }
        if (left >= 0) {
            undone.add(left + "\n" + Told.by(caller).state());
        }
    }

    /** The state that restore() would bring; empty without a snapshot. */
    String restored() {
        if (restored == null) {
            Caller caller = again();
            restored = caller.call("restore") < 0 ? "" : Told.by(caller).state();
        }
        return restored;
    }

    /** What perform() would answer, and of which stop it would tell. */
    String performed() {
        if (performed == null) {
            Caller caller = again();
            double answer = caller.call("perform");
            String stop = answer == -4 ? caller.call("stopped", 0) + " " + caller.call("stopped", 1) : "";
            performed = answer + " " + stop;
        }
        return performed;
    }
}
