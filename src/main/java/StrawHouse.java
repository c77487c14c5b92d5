/**
 * A parliament of scarecrows: fields vote by straw, hats and crows, and the
 * house decides by seats. The document is ../shared/DOC.md.
 */
public final class StrawHouse {
    public static final int UNKNOWN = -1;
    public static final int BAD_VALUE = -2;
    public static final int FULL = -3;
    public static final int NOT_POSSIBLE = -4;
    public static final int NONE = -5;

    private static final int FIELDS = 6;
    private static final int WAYS = 4;
    private static final int SETTINGS = 2;
    private static final int MOST_SCARECROWS = 12;
    private static final int MOST_HAT = 5;
    private static final int MOST_POST = 9;
    private static final int MOST_CROWS = 9;
    private static final int MOST_SEATS = 9;
    private static final int MOST_STRENGTH = 9;
    private static final int WHOLE_STRAW = 64;
    private static final int HALF_STRAW = 32;
    private static final int FIRST_STORE = 640;
    private static final int CROW_SHARES = 16;

    private static final int SHIFTING = 0;
    private static final int LOBBYING = 1;
    private static final int MOST_SHIFTING = 50;
    private static final int MOST_LOBBYING = 8;
    private static final int FIRST_LOBBYING = 2;

    private static final int MOST_TICKS = 99;
    private static final int LAST_TICK = 99999;
    private static final int FORESIGHT = 300;

    private static final int MOST_CHARACTERS = 60;
    private static final int MOST_THINGS = 30;
    private static final int NO_FAULT = -1;
    private static final int TEXT_FAULT = -100;
    private static final int MOST_STATES = 4;

    private static final int BY_WEIGHT = 0;
    private static final int BY_SPEAKER = 1;
    private static final int BY_LOWEST = 2;
    private static final int NOBODY_STANDS = 3;
    private static final int NO_WEIGHT = 4;

    private final House now = new House();
    private final House before = new House();
    private final House trial = new House();
    private final House snapshot = new House();
    private final Past past = new Past();
    private final Sitting sitting = new Sitting();
    private final Ballot ballot = new Ballot(true);
    private final Ballot quietBallot = new Ballot(false);
    private boolean kept;
    private int stopNumber = NONE;
    private int stopError = NONE;

    public StrawHouse() {
    }

    // ---- scarecrows, fields, crows

    public int setUp(int field, int hat, int post, int way) {
        before.become(now);
        return recorded(now.raise(field, hat, post, way));
    }

    public int carry(int scarecrow, int field) {
        before.become(now);
        return recorded(now.bring(scarecrow, field));
    }

    public int face(int scarecrow, int way) {
        before.become(now);
        return recorded(now.turnByHand(scarecrow, way));
    }

    public int crow(int scarecrow, int way) {
        before.become(now);
        return recorded(now.takeCrow(scarecrow, way));
    }

    public int scare(int scarecrow) {
        before.become(now);
        return recorded(now.scareOff(scarecrow));
    }

    public int fill(int scarecrow, int many) {
        before.become(now);
        return recorded(now.stuff(scarecrow, many));
    }

    public int seats(int field, int seats) {
        before.become(now);
        return recorded(now.giveSeats(field, seats));
    }

    // ---- wind, votes, ticks

    public int wind(int way, int strength) {
        before.become(now);
        return recorded(now.blow(way, strength));
    }

    public int set(int which, int value) {
        before.become(now);
        return recorded(now.adjust(which, value));
    }

    public int vote() {
        before.become(now);
        return recorded(now.countVote(ballot.decide(now)));
    }

    public int pass(int ticks) {
        before.become(now);
        return recorded(now.goOn(ticks));
    }

    // ---- texts

    public int type(char character) {
        return sitting.append(character);
    }

    public int clearText() {
        return sitting.empty();
    }

    public int perform() {
        int fault = sitting.read();
        if (fault != NO_FAULT) {
            return TEXT_FAULT - fault;
        }
        before.become(now);
        for (int number = 0; number < sitting.things; number++) {
            int answer = doThing(number);
            if (isError(answer)) {
                now.become(before);
                stopNumber = number;
                stopError = answer;
                return NOT_POSSIBLE;
            }
        }
        return recorded(sitting.things);
    }

    public int stopped(int what) {
        if (what == 0) {
            return stopNumber;
        }
        return what == 1 ? stopError : BAD_VALUE;
    }

    // ---- history

    public int undo() {
        return past.bringBack(now);
    }

    public int keep() {
        snapshot.become(now);
        kept = true;
        return now.tick;
    }

    public int restore() {
        if (!kept) {
            return NONE;
        }
        before.become(now);
        now.become(snapshot);
        return recorded(now.tick);
    }

    // ---- what is told

    public int scarecrow(int scarecrow, int what) {
        return now.tellScarecrow(scarecrow, what);
    }

    public double straw(int scarecrow) {
        return now.isScarecrow(scarecrow) ? now.strawAsFloat(scarecrow) : -1.0;
    }

    public double weight(int field, int way) {
        if (!isField(field) || !isWay(way)) {
            return -1.0;
        }
        ballot.weigh(now, field);
        return ballot.weights[way];
    }

    public int field(int field, int what) {
        if (!isField(field)) {
            return UNKNOWN;
        }
        switch (what) {
            case 0: return now.seatsOf[field];
            case 1: return now.standingIn(field);
            case 2: return ballot.voteOf(now, field);
            case 3: return ballot.speakerOf(now, field);
            default: return BAD_VALUE;
        }
    }

    public int reason(int field) {
        return isField(field) ? ballot.reasonOf(now, field) : UNKNOWN;
    }

    public int decision(int way) {
        if (way == 0) {
            return ballot.decide(now);
        }
        return way == 1 ? ballot.decideByPairs(now) : BAD_VALUE;
    }

    public int swings() {
        trial.become(now);
        int usual = ballot.decide(trial);
        int set = 0;
        for (int s = 0; s < trial.scarecrows; s++) {
            if (couldSwing(s, usual)) {
                set |= 1 << s;
            }
        }
        return set;
    }

    public int withoutCrows() {
        return quietBallot.decide(now);
    }

    public int turnsIn(int scarecrow) {
        if (!now.isScarecrow(scarecrow)) {
            return UNKNOWN;
        }
        trial.become(now);
        for (int ticks = 1; ticks <= FORESIGHT; ticks++) {
            trial.doTick();
            if (trial.turnsOf[scarecrow] > now.turnsOf[scarecrow]) {
                return ticks;
            }
        }
        return NONE;
    }

    public int ifTicks(int ticks, int what) {
        if (!isIn(ticks, 1, FORESIGHT) || !isIn(what, 0, 2)) {
            return BAD_VALUE;
        }
        trial.become(now);
        int turns = trial.doTicks(ticks);
        if (what == 0) {
            return ballot.decide(trial);
        }
        return what == 1 ? turns : sumOf(trial.pluckedOf) - sumOf(now.pluckedOf);
    }

    public int count(int what) {
        switch (what) {
            case 14: return past.size;
            case 15: return sitting.length;
            default: return now.tellCount(what);
        }
    }

    // ---- help

    /** An act that brought an error or NONE changed nothing, so it leaves no state behind. */
    private int recorded(int answer) {
        if (answer >= 0) {
            past.remember(before);
        }
        return answer;
    }

    private int doThing(int number) {
        int first = sitting.firstOf(number);
        int second = sitting.secondOf(number);
        switch (sitting.kindOf(number)) {
            case 'w': return now.blow(first, second);
            case 'c': return now.takeCrow(first, second);
            case 'f': return now.stuff(first, second);
            case 'v': return now.countVote(ballot.decide(now));
            default: return now.goOn(first);
        }
    }

    /** Only the vote of its own field can change, so only that one is taken anew. */
    private boolean couldSwing(int s, int usual) {
        int field = trial.fieldOf[s];
        int own = trial.wayOf[s];
        int vote = ballot.voteFor[field];
        boolean swings = false;
        for (int way = 0; way < WAYS && !swings; way++) {
            trial.wayOf[s] = way;
            ballot.voteFor[field] = ballot.voteOf(trial, field);
            swings = ballot.bySeats(trial) != usual;
        }
        trial.wayOf[s] = own;
        ballot.voteFor[field] = vote;
        return swings;
    }

    private static boolean isError(int answer) {
        return answer < 0 && answer != NONE;
    }

    private static boolean isIn(int number, int least, int most) {
        return number >= least && number <= most;
    }

    private static boolean isField(int field) {
        return isIn(field, 0, FIELDS - 1);
    }

    private static boolean isWay(int way) {
        return isIn(way, 0, WAYS - 1);
    }

    private static int sumOf(int[] row) {
        int sum = 0;
        for (int i = 0; i < row.length; i++) {
            sum += row[i];
        }
        return sum;
    }

    private static void copyRow(int[] from, int[] to) {
        System.arraycopy(from, 0, to, 0, Math.min(from.length, to.length));
    }

    /**
     * One state. What stands in the rows behind the last scarecrow is 0, so a
     * row can be summed up whole.
     */
    private static final class House {
        private final int[] fieldOf = new int[MOST_SCARECROWS];
        private final int[] hatOf = new int[MOST_SCARECROWS];
        private final int[] postOf = new int[MOST_SCARECROWS];
        private final int[] wayOf = new int[MOST_SCARECROWS];
        /** In 64ths. */
        private final int[] strawOf = new int[MOST_SCARECROWS];
        private final int[] turnsOf = new int[MOST_SCARECROWS];
        private final int[] pluckedOf = new int[MOST_SCARECROWS];
        /** For each scarecrow four numbers, one for each way. */
        private final int[] crowsFor = new int[MOST_SCARECROWS * WAYS];
        private final int[] seatsOf = new int[FIELDS];
        private final int[] settings = new int[SETTINGS];
        private int scarecrows;
        private int windWay;
        private int windStrength;
        private int store = FIRST_STORE;
        private int tick;
        private int votes;
        private int latest = NONE;

        private House() {
            for (int f = 0; f < FIELDS; f++) {
                seatsOf[f] = 1;
            }
            settings[LOBBYING] = FIRST_LOBBYING;
        }

        private void become(House other) {
            copyRow(other.fieldOf, fieldOf);
            copyRow(other.hatOf, hatOf);
            copyRow(other.postOf, postOf);
            copyRow(other.wayOf, wayOf);
            copyRow(other.strawOf, strawOf);
            copyRow(other.turnsOf, turnsOf);
            copyRow(other.pluckedOf, pluckedOf);
            copyRow(other.crowsFor, crowsFor);
            copyRow(other.seatsOf, seatsOf);
            copyRow(other.settings, settings);
            scarecrows = other.scarecrows;
            windWay = other.windWay;
            windStrength = other.windStrength;
            store = other.store;
            tick = other.tick;
            votes = other.votes;
            latest = other.latest;
        }

        // -- acts

        private int raise(int field, int hat, int post, int way) {
            if (!isField(field) || !isWay(way)) {
                return UNKNOWN;
            }
            if (!isIn(hat, 1, MOST_HAT) || !isIn(post, 1, MOST_POST)) {
                return BAD_VALUE;
            }
            if (scarecrows >= MOST_SCARECROWS) {
                return FULL;
            }
            int s = scarecrows;
            fieldOf[s] = field;
            hatOf[s] = hat;
            postOf[s] = post;
            wayOf[s] = way;
            strawOf[s] = WHOLE_STRAW;
            scarecrows++;
            return s;
        }

        private int bring(int s, int field) {
            if (!isScarecrow(s) || !isField(field)) {
                return UNKNOWN;
            }
            int previous = fieldOf[s];
            if (previous == field) {
                return NONE;
            }
            fieldOf[s] = field;
            return previous;
        }

        private int turnByHand(int s, int way) {
            if (!isScarecrow(s) || !isWay(way)) {
                return UNKNOWN;
            }
            int previous = wayOf[s];
            if (previous == way) {
                return NONE;
            }
            wayOf[s] = way;
            return previous;
        }

        private int takeCrow(int s, int way) {
            if (!isScarecrow(s) || !isWay(way)) {
                return UNKNOWN;
            }
            if (strawOf[s] == 0) {
                return NOT_POSSIBLE;
            }
            int crows = crowsOn(s);
            if (crows >= MOST_CROWS) {
                return FULL;
            }
            crowsFor[s * WAYS + way]++;
            return crows + 1;
        }

        private int scareOff(int s) {
            if (!isScarecrow(s)) {
                return UNKNOWN;
            }
            int crows = crowsOn(s);
            if (crows == 0) {
                return NONE;
            }
            letCrowsFly(s);
            return crows;
        }

        private int stuff(int s, int many) {
            if (!isScarecrow(s)) {
                return UNKNOWN;
            }
            if (!isIn(many, 1, WHOLE_STRAW)) {
                return BAD_VALUE;
            }
            int filled = Math.min(many, Math.min(WHOLE_STRAW - strawOf[s], store));
            if (filled <= 0) {
                return NONE;
            }
            strawOf[s] += filled;
            store -= filled;
            return filled;
        }

        private int giveSeats(int field, int seats) {
            if (!isField(field)) {
                return UNKNOWN;
            }
            if (!isIn(seats, 1, MOST_SEATS)) {
                return BAD_VALUE;
            }
            int previous = seatsOf[field];
            if (previous == seats) {
                return NONE;
            }
            seatsOf[field] = seats;
            return previous;
        }

        private int blow(int way, int strength) {
            if (!isWay(way)) {
                return UNKNOWN;
            }
            if (!isIn(strength, 0, MOST_STRENGTH)) {
                return BAD_VALUE;
            }
            if (windWay == way && windStrength == strength) {
                return NONE;
            }
            int previous = 10 * windWay + windStrength;
            windWay = way;
            windStrength = strength;
            return previous;
        }

        private int adjust(int which, int value) {
            if (!isIn(which, 0, SETTINGS - 1)) {
                return UNKNOWN;
            }
            if (!isIn(value, 0, which == SHIFTING ? MOST_SHIFTING : MOST_LOBBYING)) {
                return BAD_VALUE;
            }
            int previous = settings[which];
            if (previous == value) {
                return NONE;
            }
            settings[which] = value;
            return previous;
        }

        private int countVote(int decision) {
            if (!isWay(decision)) {
                return NOT_POSSIBLE;
            }
            votes++;
            latest = decision;
            return decision;
        }

        private int goOn(int ticks) {
            if (!isIn(ticks, 1, MOST_TICKS)) {
                return BAD_VALUE;
            }
            return tick + ticks > LAST_TICK ? FULL : doTicks(ticks);
        }

        // -- ticks

        /** Knows no last tick: what ticks would bring is told beyond it too. */
        private int doTicks(int ticks) {
            int turns = 0;
            for (int n = 0; n < ticks; n++) {
                turns += doTick();
            }
            return turns;
        }

        private int doTick() {
            int turns = 0;
            for (int s = 0; s < scarecrows; s++) {
                turns += turnByWind(s);
            }
            for (int s = 0; s < scarecrows; s++) {
                pluck(s);
            }
            tick++;
            shiftWind();
            return turns;
        }

        private int turnByWind(int s) {
            int force = strawOf[s] < HALF_STRAW ? windStrength + 1 : windStrength;
            if (force <= postOf[s] || wayOf[s] == windWay) {
                return 0;
            }
            boolean nextIsBehind = (wayOf[s] + WAYS - 1) % WAYS == windWay;
            wayOf[s] = (wayOf[s] + (nextIsBehind ? WAYS - 1 : 1)) % WAYS;
            turnsOf[s]++;
            return 1;
        }

        private void pluck(int s) {
            int plucked = Math.min(crowsOn(s), strawOf[s]);
            strawOf[s] -= plucked;
            pluckedOf[s] += plucked;
            if (strawOf[s] == 0) {
                letCrowsFly(s);
            }
        }

        private void shiftWind() {
            int every = settings[SHIFTING];
            if (every > 0 && tick % every == 0) {
                windWay = (windWay + 1) % WAYS;
            }
        }

        private void letCrowsFly(int s) {
            for (int way = 0; way < WAYS; way++) {
                crowsFor[s * WAYS + way] = 0;
            }
        }

        // -- what is told

        private boolean isScarecrow(int s) {
            return s >= 0 && s < scarecrows;
        }

        private int crowsOn(int s) {
            int crows = 0;
            for (int way = 0; way < WAYS; way++) {
                crows += crowsFor[s * WAYS + way];
            }
            return crows;
        }

        private float strawAsFloat(int s) {
            return (float) strawOf[s] / WHOLE_STRAW;
        }

        private float lobbyFor(int s, int way) {
            return (float) (crowsFor[s * WAYS + way] * settings[LOBBYING]) / CROW_SHARES;
        }

        private int standingIn(int field) {
            int set = 0;
            for (int s = 0; s < scarecrows; s++) {
                if (fieldOf[s] == field) {
                    set |= 1 << s;
                }
            }
            return set;
        }

        private int tellScarecrow(int s, int what) {
            if (!isScarecrow(s)) {
                return UNKNOWN;
            }
            switch (what) {
                case 0: return fieldOf[s];
                case 1: return hatOf[s];
                case 2: return postOf[s];
                case 3: return wayOf[s];
                case 4: return crowsOn(s);
                case 5:
                case 6:
                case 7:
                case 8: return crowsFor[s * WAYS + what - 5];
                case 9: return turnsOf[s];
                case 10: return pluckedOf[s];
                default: return BAD_VALUE;
            }
        }

        private int tellCount(int what) {
            switch (what) {
                case 0: return tick;
                case 1: return scarecrows;
                case 2: return sumOf(crowsFor);
                case 3: return windWay;
                case 4: return windStrength;
                case 5: return store;
                case 6: return sumOf(strawOf);
                case 7: return sumOf(pluckedOf);
                case 8: return sumOf(turnsOf);
                case 9: return votes;
                case 10: return latest;
                case 11: return sumOf(seatsOf);
                case 12: return settings[SHIFTING];
                case 13: return settings[LOBBYING];
                default: return BAD_VALUE;
            }
        }
    }

    /** Counts weights, votes and seats; with or without what the crows lobby for. */
    private static final class Ballot {
        private final boolean lobby;
        private final float[] weights = new float[WAYS];
        private final int[] voteFor = new int[FIELDS];

        private Ballot(boolean lobby) {
            this.lobby = lobby;
        }

        private void weigh(House house, int field) {
            for (int way = 0; way < WAYS; way++) {
                weights[way] = 0f;
            }
            for (int s = 0; s < house.scarecrows; s++) {
                if (house.fieldOf[s] != field) {
                    continue;
                }
                weights[house.wayOf[s]] += house.strawAsFloat(s) * house.hatOf[s];
                for (int way = 0; lobby && way < WAYS; way++) {
                    weights[way] += house.lobbyFor(s, way);
                }
            }
        }

        private float greatestWeight() {
            float greatest = 0f;
            for (int way = 0; way < WAYS; way++) {
                if (weights[way] > greatest) {
                    greatest = weights[way];
                }
            }
            return greatest;
        }

        private int speakerOf(House house, int field) {
            int speaker = NONE;
            for (int s = 0; s < house.scarecrows; s++) {
                if (house.fieldOf[s] == field && (speaker < 0 || speaksBefore(house, s, speaker))) {
                    speaker = s;
                }
            }
            return speaker;
        }

        private static boolean speaksBefore(House house, int s, int other) {
            if (house.hatOf[s] != house.hatOf[other]) {
                return house.hatOf[s] > house.hatOf[other];
            }
            return house.strawOf[s] > house.strawOf[other];
        }

        private int voteOf(House house, int field) {
            int speaker = speakerOf(house, field);
            if (speaker < 0) {
                return NONE;
            }
            weigh(house, field);
            float greatest = greatestWeight();
            if (greatest <= 0f) {
                return NONE;
            }
            int way = house.wayOf[speaker];
            return weights[way] == greatest ? way : lowestOf(greatest);
        }

        private int lowestOf(float weight) {
            for (int way = 0; way < WAYS; way++) {
                if (weights[way] == weight) {
                    return way;
                }
            }
            return NONE;
        }

        private int howManyOf(float weight) {
            int many = 0;
            for (int way = 0; way < WAYS; way++) {
                if (weights[way] == weight) {
                    many++;
                }
            }
            return many;
        }

        private int reasonOf(House house, int field) {
            int speaker = speakerOf(house, field);
            if (speaker < 0) {
                return NOBODY_STANDS;
            }
            weigh(house, field);
            float greatest = greatestWeight();
            if (greatest <= 0f) {
                return NO_WEIGHT;
            }
            if (howManyOf(greatest) == 1) {
                return BY_WEIGHT;
            }
            return weights[house.wayOf[speaker]] == greatest ? BY_SPEAKER : BY_LOWEST;
        }

        private void poll(House house) {
            for (int field = 0; field < FIELDS; field++) {
                voteFor[field] = voteOf(house, field);
            }
        }

        private int decide(House house) {
            poll(house);
            return bySeats(house);
        }

        private int bySeats(House house) {
            for (int way = 0; way < WAYS; way++) {
                if (hasMajority(house, way)) {
                    return way;
                }
            }
            return NONE;
        }

        /** Who has a majority is left over; but who is left over may have none, as all seats count. */
        private int decideByPairs(House house) {
            poll(house);
            int left = leftByPairs(house);
            return isWay(left) && hasMajority(house, left) ? left : NONE;
        }

        private int leftByPairs(House house) {
            int way = NONE;
            int left = 0;
            for (int field = 0; field < FIELDS; field++) {
                int vote = voteFor[field];
                if (isWay(vote)) {
                    left = vote == way ? left + house.seatsOf[field] : left - house.seatsOf[field];
                }
                if (left < 0) {
                    way = vote;
                    left = -left;
                }
            }
            return way;
        }

        private boolean hasMajority(House house, int way) {
            int seats = 0;
            for (int field = 0; field < FIELDS; field++) {
                if (voteFor[field] == way) {
                    seats += house.seatsOf[field];
                }
            }
            return 2 * seats > sumOf(house.seatsOf);
        }
    }

    /** The states before the latest acts, the oldest one first. */
    private static final class Past {
        private final House[] states = new House[MOST_STATES];
        private int size;

        private Past() {
            for (int i = 0; i < MOST_STATES; i++) {
                states[i] = new House();
            }
        }

        private void remember(House house) {
            if (size >= MOST_STATES) {
                dropOldest();
            }
            states[size].become(house);
            size++;
        }

        private void dropOldest() {
            House oldest = states[0];
            for (int i = 1; i < MOST_STATES; i++) {
                states[i - 1] = states[i];
            }
            states[MOST_STATES - 1] = oldest;
            size = MOST_STATES - 1;
        }

        private int bringBack(House house) {
            if (size <= 0) {
                return NONE;
            }
            size--;
            house.become(states[size]);
            return size;
        }
    }

    /** The text, and the things that it tells once it has been read. */
    private static final class Sitting {
        private static final int NO_CHARACTER = -1;
        private static final int NO_NUMBER = -1;

        private final char[] characters = new char[MOST_CHARACTERS];
        private final int[] kinds = new int[MOST_THINGS];
        private final int[] firsts = new int[MOST_THINGS];
        private final int[] seconds = new int[MOST_THINGS];
        private int length;
        private int things;
        private int at;

        private int append(char character) {
            if (length >= MOST_CHARACTERS) {
                return FULL;
            }
            characters[length] = character;
            length++;
            return length;
        }

        private int empty() {
            int previous = length;
            length = 0;
            return previous;
        }

        private int kindOf(int number) {
            return isIn(number, 0, MOST_THINGS - 1) ? kinds[number] : NO_CHARACTER;
        }

        private int firstOf(int number) {
            return isIn(number, 0, MOST_THINGS - 1) ? firsts[number] : NO_NUMBER;
        }

        private int secondOf(int number) {
            return isIn(number, 0, MOST_THINGS - 1) ? seconds[number] : NO_NUMBER;
        }

        /** The fault of the text. A ";" behind the last thing that has room is one: the text ends there. */
        private int read() {
            at = 0;
            things = 0;
            for (int n = 0; n < MOST_THINGS; n++) {
                if (!readThing()) {
                    return at;
                }
                if (at >= length) {
                    return NO_FAULT;
                }
                if (!readSign(';')) {
                    return at;
                }
            }
            return at;
        }

        private boolean readThing() {
            switch (characterAt(at)) {
                case 'w': return readPair(WAYS - 1, '*', 0, MOST_STRENGTH);
                case 'c': return readPair(MOST_SCARECROWS - 1, ':', 0, WAYS - 1);
                case 'f': return readPair(MOST_SCARECROWS - 1, '+', 1, WHOLE_STRAW);
                case 'v': return readVote();
                case '.': return readTicks();
                default: return false;
            }
        }

        private boolean readPair(int mostFirst, int sign, int least, int most) {
            int kind = characterAt(at);
            at++;
            int first = readNumber(0, mostFirst);
            if (first == NO_NUMBER || !readSign(sign)) {
                return false;
            }
            int second = readNumber(least, most);
            return second != NO_NUMBER && add(kind, first, second);
        }

        private boolean readVote() {
            at++;
            return add('v', 0, 0);
        }

        private boolean readTicks() {
            at++;
            int ticks = readNumber(1, MOST_TICKS);
            return ticks != NO_NUMBER && add('.', ticks, 0);
        }

        private boolean add(int kind, int first, int second) {
            if (things >= MOST_THINGS) {
                return false;
            }
            kinds[things] = kind;
            firsts[things] = first;
            seconds[things] = second;
            things++;
            return true;
        }

        private boolean readSign(int sign) {
            if (characterAt(at) != sign) {
                return false;
            }
            at++;
            return true;
        }

        /** Stops ahead of a digit that is not allowed; as no sign is a digit, the fault is found there. */
        private int readNumber(int least, int most) {
            int number = digitAt(at);
            if (number < least || number > most) {
                return NO_NUMBER;
            }
            at++;
            for (int n = 1; n < MOST_CHARACTERS && number > 0; n++) {
                int digit = digitAt(at);
                if (digit < 0 || 10 * number + digit > most) {
                    return number;
                }
                number = 10 * number + digit;
                at++;
            }
            return number;
        }

        private int digitAt(int index) {
            int character = characterAt(index);
            return isIn(character, '0', '9') ? character - '0' : NO_NUMBER;
        }

        private int characterAt(int index) {
            return index >= 0 && index < length ? characters[index] : NO_CHARACTER;
        }
    }
}
