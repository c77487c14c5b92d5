/**
 * All that a house tells of itself at once. The state is apart from what the
 * document does not count among it: the text, the history and the latest stop.
 */
record Told(String state, int history, int text, String stop, int missing, String decisions) {

    static Told by(Caller caller) {
        int scarecrows = (int) caller.call("count", 1);
        StringBuilder state = new StringBuilder("counts");
        for (int what = 0; what <= 13; what++) {
            state.append(' ').append(caller.call("count", what));
        }
        for (int s = 0; s <= scarecrows; s++) {
            addScarecrow(state, caller, s);
        }
        for (int f = 0; f < 6; f++) {
            addField(state, caller, f);
        }
        String decisions = caller.call("decision", 0) + " " + caller.call("decision", 1);
        state.append("\nhouse ").append(decisions);
        state.append(' ').append(caller.call("swings")).append(' ').append(caller.call("withoutCrows"));
        return new Told(state.toString(), (int) caller.call("count", 14), (int) caller.call("count", 15),
                caller.call("stopped", 0) + " " + caller.call("stopped", 1), missingStraw(caller, scarecrows), decisions);
    }

    /** 64ths that are neither in the store nor in a scarecrow nor plucked: 0, if the accounts add up. */
    private static int missingStraw(Caller caller, int scarecrows) {
        double there = caller.call("count", 5) + caller.call("count", 6) + caller.call("count", 7);
        return 640 + 64 * scarecrows - (int) there;
    }

    /** The decision told in two ways is the same. */
    boolean decidesAlike() {
        return decisions.substring(decisions.indexOf(' ') + 1).equals(decisions.substring(0, decisions.indexOf(' ')));
    }

    private static void addScarecrow(StringBuilder state, Caller caller, int s) {
        state.append("\nscarecrow ").append(s);
        for (int what = 0; what <= 10; what++) {
            state.append(' ').append(caller.call("scarecrow", s, what));
        }
        state.append(' ').append(caller.call("straw", s)).append(' ').append(caller.call("turnsIn", s));
    }

    private static void addField(StringBuilder state, Caller caller, int f) {
        state.append("\nfield ").append(f);
        for (int what = 0; what <= 3; what++) {
            state.append(' ').append(caller.call("field", f, what));
        }
        state.append(' ').append(caller.call("reason", f));
        for (int way = 0; way < 4; way++) {
            state.append(' ').append(caller.call("weight", f, way));
        }
    }
}
