import java.util.ArrayList;
import java.util.List;
import java.util.regex.Matcher;
import java.util.regex.Pattern;

/**
 * The document told a second time, in another way than the program: each crow
 * is a number in a list, weights are whole 64ths, faults are found by a regular
 * expression, and every state is a copy. Has the methods of StrawHouse.
 */
final class Model {
    private static final int UNKNOWN = -1;
    private static final int BAD_VALUE = -2;
    private static final int FULL = -3;
    private static final int NOT_POSSIBLE = -4;
    private static final int NONE = -5;
    private static final String THING =
            "(w[0-3]\\*[0-9]|c(1[01]|[0-9]):[0-3]|f(1[01]|[0-9])\\+(6[0-4]|[1-5][0-9]|[1-9])|v|\\.[1-9][0-9]?)";
    private static final Pattern SITTING = Pattern.compile(THING + "(;" + THING + ")*", Pattern.DOTALL);

    private static final class Bird {
        int field;
        int hat;
        int post;
        int way;
        int straw = 64;
        int turns;
        int plucked;
        List<Integer> crows = new ArrayList<>();

        Bird copy() {
            Bird other = new Bird();
            other.field = field;
            other.hat = hat;
            other.post = post;
            other.way = way;
            other.straw = straw;
            other.turns = turns;
            other.plucked = plucked;
            other.crows = new ArrayList<>(crows);
            return other;
        }
    }

    private static final class State {
        List<Bird> birds = new ArrayList<>();
        int[] seats = {1, 1, 1, 1, 1, 1};
        int[] settings = {0, 2};
        int windWay;
        int strength;
        int store = 640;
        int tick;
        int votes;
        int latest = NONE;

        State copy() {
            State other = new State();
            for (Bird bird : birds) {
                other.birds.add(bird.copy());
            }
            other.seats = seats.clone();
            other.settings = settings.clone();
            other.windWay = windWay;
            other.strength = strength;
            other.store = store;
            other.tick = tick;
            other.votes = votes;
            other.latest = latest;
            return other;
        }

        int oneTick() {
            int turned = 0;
            for (Bird bird : birds) {
                int force = strength + (2 * bird.straw < 64 ? 1 : 0);
                int apart = Math.floorMod(windWay - bird.way, 4);
                if (force > bird.post && apart != 0) {
                    bird.way = Math.floorMod(bird.way + (apart == 3 ? -1 : 1), 4);
                    bird.turns++;
                    turned++;
                }
            }
            for (Bird bird : birds) {
                for (int n = bird.crows.size(); n > 0 && bird.straw > 0; n--) {
                    bird.straw--;
                    bird.plucked++;
                }
                if (bird.straw == 0) {
                    bird.crows.clear();
                }
            }
            tick++;
            if (settings[0] != 0 && tick % settings[0] == 0) {
                windWay = windWay == 3 ? 0 : windWay + 1;
            }
            return turned;
        }

        int weight64(int field, int way, boolean lobby) {
            int weight = 0;
            for (Bird bird : birds) {
                if (bird.field == field) {
                    weight += bird.way == way ? bird.straw * bird.hat : 0;
                    for (int crow : bird.crows) {
                        weight += lobby && crow == way ? settings[1] * 4 : 0;
                    }
                }
            }
            return weight;
        }

        int speaker(int field) {
            int best = NONE;
            int bestRank = -1;
            for (int n = 0; n < birds.size(); n++) {
                int rank = birds.get(n).hat * 100 + birds.get(n).straw;
                if (birds.get(n).field == field && rank > bestRank) {
                    best = n;
                    bestRank = rank;
                }
            }
            return best;
        }

        List<Integer> greatest(int field, boolean lobby) {
            int most = 1;
            List<Integer> ways = new ArrayList<>();
            for (int way = 0; way < 4; way++) {
                int weight = weight64(field, way, lobby);
                if (weight > most) {
                    ways.clear();
                }
                if (weight >= most) {
                    most = weight;
                    ways.add(way);
                }
            }
            return ways;
        }

        int vote(int field, boolean lobby) {
            List<Integer> ways = greatest(field, lobby);
            if (ways.isEmpty()) {
                return NONE;
            }
            int speaks = birds.get(speaker(field)).way;
            return ways.contains(speaks) ? speaks : ways.get(0);
        }

        int decision(boolean lobby) {
            int[] votes = new int[4];
            int all = 0;
            for (int field = 0; field < 6; field++) {
                all += seats[field];
                int vote = vote(field, lobby);
                if (vote >= 0) {
                    votes[vote] += seats[field];
                }
            }
            for (int way = 0; way < 4; way++) {
                if (votes[way] > all / 2.0) {
                    return way;
                }
            }
            return NONE;
        }

        int plucked() {
            return birds.stream().mapToInt(bird -> bird.plucked).sum();
        }
    }

    private State state = new State();
    private final List<State> history = new ArrayList<>();
    private State snapshot;
    private String text = "";
    private int stopNumber = NONE;
    private int stopError = NONE;
    /** Within a sitting nothing is recorded but the whole. */
    private boolean performing;

    private Bird bird(int n) {
        return n >= 0 && n < state.birds.size() ? state.birds.get(n) : null;
    }

    private static boolean out(int number, int least, int most) {
        return number < least || number > most;
    }

    private void act() {
        if (!performing) {
            history.add(state.copy());
            if (history.size() > 4) {
                history.remove(0);
            }
        }
    }

    int setUp(int field, int hat, int post, int way) {
        if (out(field, 0, 5) || out(way, 0, 3)) {
            return UNKNOWN;
        }
        if (out(hat, 1, 5) || out(post, 1, 9)) {
            return BAD_VALUE;
        }
        if (state.birds.size() == 12) {
            return FULL;
        }
        act();
        Bird bird = new Bird();
        bird.field = field;
        bird.hat = hat;
        bird.post = post;
        bird.way = way;
        state.birds.add(bird);
        return state.birds.size() - 1;
    }

    int carry(int scarecrow, int field) {
        if (bird(scarecrow) == null || out(field, 0, 5)) {
            return UNKNOWN;
        }
        int previous = bird(scarecrow).field;
        if (previous == field) {
            return NONE;
        }
        act();
        bird(scarecrow).field = field;
        return previous;
    }

    int face(int scarecrow, int way) {
        if (bird(scarecrow) == null || out(way, 0, 3)) {
            return UNKNOWN;
        }
        int previous = bird(scarecrow).way;
        if (previous == way) {
            return NONE;
        }
        act();
        bird(scarecrow).way = way;
        return previous;
    }

    int crow(int scarecrow, int way) {
        if (bird(scarecrow) == null || out(way, 0, 3)) {
            return UNKNOWN;
        }
        if (bird(scarecrow).straw == 0) {
            return NOT_POSSIBLE;
        }
        if (bird(scarecrow).crows.size() == 9) {
            return FULL;
        }
        act();
        bird(scarecrow).crows.add(way);
        return bird(scarecrow).crows.size();
    }

    int scare(int scarecrow) {
        if (bird(scarecrow) == null) {
            return UNKNOWN;
        }
        int many = bird(scarecrow).crows.size();
        if (many == 0) {
            return NONE;
        }
        act();
        bird(scarecrow).crows.clear();
        return many;
    }

    int fill(int scarecrow, int many) {
        if (bird(scarecrow) == null) {
            return UNKNOWN;
        }
        if (out(many, 1, 64)) {
            return BAD_VALUE;
        }
        int filled = 0;
        while (filled < many && bird(scarecrow).straw + filled < 64 && filled < state.store) {
            filled++;
        }
        if (filled == 0) {
            return NONE;
        }
        act();
        bird(scarecrow).straw += filled;
        state.store -= filled;
        return filled;
    }

    int seats(int field, int seats) {
        if (out(field, 0, 5)) {
            return UNKNOWN;
        }
        if (out(seats, 1, 9)) {
            return BAD_VALUE;
        }
        int previous = state.seats[field];
        if (previous == seats) {
            return NONE;
        }
        act();
        state.seats[field] = seats;
        return previous;
    }

    int wind(int way, int strength) {
        if (out(way, 0, 3)) {
            return UNKNOWN;
        }
        if (out(strength, 0, 9)) {
            return BAD_VALUE;
        }
        int previous = state.windWay * 10 + state.strength;
        if (previous == way * 10 + strength) {
            return NONE;
        }
        act();
        state.windWay = way;
        state.strength = strength;
        return previous;
    }

    int set(int which, int value) {
        if (out(which, 0, 1)) {
            return UNKNOWN;
        }
        if (out(value, 0, which == 0 ? 50 : 8)) {
            return BAD_VALUE;
        }
        int previous = state.settings[which];
        if (previous == value) {
            return NONE;
        }
        act();
        state.settings[which] = value;
        return previous;
    }

    int vote() {
        int decision = state.decision(true);
        if (decision == NONE) {
            return NOT_POSSIBLE;
        }
        act();
        state.votes++;
        state.latest = decision;
        return decision;
    }

    int pass(int ticks) {
        if (out(ticks, 1, 99)) {
            return BAD_VALUE;
        }
        if (state.tick + ticks > 99999) {
            return FULL;
        }
        act();
        int turns = 0;
        for (int n = 0; n < ticks; n++) {
            turns += state.oneTick();
        }
        return turns;
    }

    int type(char character) {
        if (text.length() == 60) {
            return FULL;
        }
        text += character;
        return text.length();
    }

    int clearText() {
        int length = text.length();
        text = "";
        return length;
    }

    /** The length of the longest start of the text that some sitting starts with. */
    static int fault(String text) {
        for (int end = 1; end <= text.length(); end++) {
            Matcher matcher = SITTING.matcher(text.substring(0, end));
            if (!matcher.matches() && !matcher.hitEnd()) {
                return end - 1;
            }
        }
        return SITTING.matcher(text).matches() ? NONE : text.length();
    }

    int perform() {
        int fault = fault(text);
        if (fault != NONE) {
            return -100 - fault;
        }
        State before = state.copy();
        String[] things = text.split(";");
        for (int n = 0; n < things.length; n++) {
            performing = true;
            int answer = doThing(things[n].charAt(0), things[n].substring(1).split("[*:+]"));
            performing = false;
            if (answer < 0 && answer != NONE) {
                state = before;
                stopNumber = n;
                stopError = answer;
                return NOT_POSSIBLE;
            }
        }
        State after = state;
        state = before;
        act();
        state = after;
        return things.length;
    }

    private int doThing(char kind, String[] numbers) {
        if (kind == 'v') {
            return vote();
        }
        int first = Integer.parseInt(numbers[0]);
        if (kind == '.') {
            return pass(first);
        }
        int second = Integer.parseInt(numbers[1]);
        return kind == 'w' ? wind(first, second) : kind == 'c' ? crow(first, second) : fill(first, second);
    }

    int stopped(int what) {
        return out(what, 0, 1) ? BAD_VALUE : what == 0 ? stopNumber : stopError;
    }

    int undo() {
        if (history.isEmpty()) {
            return NONE;
        }
        state = history.remove(history.size() - 1);
        return history.size();
    }

    int keep() {
        snapshot = state.copy();
        return state.tick;
    }

    int restore() {
        if (snapshot == null) {
            return NONE;
        }
        act();
        state = snapshot.copy();
        return state.tick;
    }

    int scarecrow(int scarecrow, int what) {
        Bird bird = bird(scarecrow);
        if (bird == null) {
            return UNKNOWN;
        }
        if (out(what, 0, 10)) {
            return BAD_VALUE;
        }
        int[] crows = new int[4];
        for (int way : bird.crows) {
            crows[way]++;
        }
        return new int[] {bird.field, bird.hat, bird.post, bird.way, bird.crows.size(),
            crows[0], crows[1], crows[2], crows[3], bird.turns, bird.plucked}[what];
    }

    double straw(int scarecrow) {
        return bird(scarecrow) == null ? -1.0 : bird(scarecrow).straw / 64.0;
    }

    double weight(int field, int way) {
        return out(field, 0, 5) || out(way, 0, 3) ? -1.0 : state.weight64(field, way, true) / 64.0;
    }

    int field(int field, int what) {
        if (out(field, 0, 5)) {
            return UNKNOWN;
        }
        if (out(what, 0, 3)) {
            return BAD_VALUE;
        }
        int set = 0;
        for (int n = 0; n < state.birds.size(); n++) {
            set += state.birds.get(n).field == field ? 1 << n : 0;
        }
        return new int[] {state.seats[field], set, state.vote(field, true), state.speaker(field)}[what];
    }

    int reason(int field) {
        if (out(field, 0, 5)) {
            return UNKNOWN;
        }
        if (state.speaker(field) == NONE) {
            return 3;
        }
        List<Integer> ways = state.greatest(field, true);
        if (ways.size() < 2) {
            return ways.isEmpty() ? 4 : 0;
        }
        return ways.contains(state.birds.get(state.speaker(field)).way) ? 1 : 2;
    }

    int decision(int way) {
        return out(way, 0, 1) ? BAD_VALUE : state.decision(true);
    }

    int swings() {
        int set = 0;
        for (int n = 0; n < state.birds.size(); n++) {
            for (int quarter = 1; quarter < 4; quarter++) {
                State other = state.copy();
                other.birds.get(n).way = (other.birds.get(n).way + quarter) % 4;
                set |= other.decision(true) == state.decision(true) ? 0 : 1 << n;
            }
        }
        return set;
    }

    int withoutCrows() {
        State other = state.copy();
        for (Bird bird : other.birds) {
            bird.crows.clear();
        }
        return other.decision(true);
    }

    int turnsIn(int scarecrow) {
        if (bird(scarecrow) == null) {
            return UNKNOWN;
        }
        State other = state.copy();
        for (int n = 1; n <= 300; n++) {
            int way = other.birds.get(scarecrow).way;
            other.oneTick();
            if (other.birds.get(scarecrow).way != way) {
                return n;
            }
        }
        return NONE;
    }

    int ifTicks(int ticks, int what) {
        if (out(ticks, 1, 300) || out(what, 0, 2)) {
            return BAD_VALUE;
        }
        State other = state.copy();
        int turns = 0;
        for (int n = 0; n < ticks; n++) {
            turns += other.oneTick();
        }
        return new int[] {other.decision(true), turns, other.plucked() - state.plucked()}[what];
    }

    int count(int what) {
        int straw = state.birds.stream().mapToInt(bird -> bird.straw).sum();
        int crows = state.birds.stream().mapToInt(bird -> bird.crows.size()).sum();
        int turns = state.birds.stream().mapToInt(bird -> bird.turns).sum();
        int seats = java.util.Arrays.stream(state.seats).sum();
        return out(what, 0, 15) ? BAD_VALUE : new int[] {state.tick, state.birds.size(), crows, state.windWay,
            state.strength, state.store, straw, state.plucked(), turns, state.votes, state.latest, seats,
            state.settings[0], state.settings[1], history.size(), text.length()}[what];
    }
}
