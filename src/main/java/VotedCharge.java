/**
 * A crash unit that fires its stages only when two of three sensors and a slow switch agree.
 *
 * <p>All rows are made in the constructor and used again, so no later call makes an object.
 */
public final class VotedCharge {
    public static final int NO_SUCH = -1, BAD_VALUE = -2, BAD_TEXT = -3, TOO_MANY = -4, NOT_POSSIBLE = -5, NONE = -6;
    public static final int LOW = 0, HIGH = 1, HOLD = 2, STUCK = 3, FAR = 4, DELAY = 5;

    private static final int SENSORS = 3;
    private static final int STAGES = 3;
    private static final int ALL_VOTES = 7;
    private static final int VOTES_NEEDED = 2;
    private static final int MOST_READING = 500;
    private static final int QUIET_MIDDLE = 3;
    private static final int IGNORED_ACCELERATION = 4;
    private static final int MOST_TICKS = 100000;
    private static final int MOST_TICKS_AHEAD = 50;
    /** Is added to every number that can be below 0, so that no answer is taken for an error. */
    private static final int RAISED = 100000;

    private static final int SETTINGS = 6;
    private static final int[] LEAST_VALUE = {1, 1, 1, 2, 1, 0};
    private static final int[] MOST_VALUE = {2000, 2000, 50, 50, 500, 20};
    private static final int[] FIRST_VALUE = {60, 150, 5, 8, 40, 2};
    private static final int FIRST_SETTING_COUNT = 8;

    private static final int RECORDED_TICKS = 12;
    private static final int TICKS_BEHIND_EVENT = 6;
    private static final int RECORDED_NUMBERS = 10;

    private static final int PAD_LENGTH = 80;
    private static final int PUT_CHARACTERS = 8;
    private static final int LEAST_CODE = 33;
    private static final int MOST_CODE = 126;

    private static final int HISTORY = 6;
    private static final int SLOTS = 2;

    private final Unit now;
    /** A unit for ticks that are only tried. */
    private final Unit trial;
    private final Tick next;
    private final Pad pad;
    private final Unit[] history;
    private int undoable;
    private final Unit[] slots;
    private final boolean[] isSaved;

    public VotedCharge() {
        now = new Unit();
        trial = new Unit();
        next = new Tick();
        pad = new Pad();
        history = newUnits(HISTORY);
        slots = newUnits(SLOTS);
        isSaved = new boolean[SLOTS];
    }

    // ---- changes

    public int set(int setting, int value) {
        if (setting < 0 || setting >= SETTINGS) {
            return BAD_VALUE;
        }
        if (value < LEAST_VALUE[setting] || value > MOST_VALUE[setting]) {
            return BAD_VALUE;
        }
        remember();
        int previous = now.settings[setting];
        now.settings[setting] = value;
        return previous;
    }

    public int tick(int zero, int one, int two, boolean closed) {
        if (!areReadings(zero, one, two)) {
            return BAD_VALUE;
        }
        if (now.ticks >= MOST_TICKS) {
            return TOO_MANY;
        }
        remember();
        return pass(now, zero, one, two, closed);
    }

    public int bar(int stage, boolean isBarred) {
        if (stage < 0 || stage >= STAGES) {
            return NO_SUCH;
        }
        if (has(now.barred, stage) == isBarred || now.firedIn[stage] != NONE) {
            return NOT_POSSIBLE;
        }
        remember();
        now.barred = isBarred ? with(now.barred, stage) : without(now.barred, stage);
        return now.barred;
    }

    public int test(int sensor) {
        if (sensor < 0 || sensor >= SENSORS) {
            return NO_SUCH;
        }
        if (now.firedStages() != 0) {
            return NOT_POSSIBLE;
        }
        remember();
        int hadLostVote = has(now.votes, sensor) ? 0 : 1;
        now.votes = with(now.votes, sensor);
        now.offsets[sensor] = 0;
        now.speeds[sensor] = 0;
        now.sameFor[sensor] = 0;
        return hadLostVote;
    }

    public int service() {
        remember();
        int fired = Integer.bitCount(now.firedStages());
        now.forgetEvent();
        return fired;
    }

    // ---- what there is

    public int sensor(int sensor, int what) {
        if (sensor < 0 || sensor >= SENSORS) {
            return NO_SUCH;
        }
        switch (what) {
            case 0: return now.offsets[sensor] + RAISED;
            case 1: return now.speeds[sensor] + RAISED;
            case 2: return asNumber(has(now.votes, sensor));
            case 3: return now.sameFor[sensor];
            case 4: return now.ticks == 0 ? NONE : now.readings[sensor] + RAISED;
            default: return BAD_VALUE;
        }
    }

    public int stage(int stage, int what) {
        if (stage < 0 || stage >= STAGES) {
            return NO_SUCH;
        }
        switch (what) {
            case 0: return now.firedIn[stage];
            case 1: return asNumber(has(now.barred, stage));
            default: return BAD_VALUE;
        }
    }

    public int record(int place, int what) {
        if (place < 0 || place >= now.recorder.size) {
            return NO_SUCH;
        }
        if (what < 0 || what >= RECORDED_NUMBERS) {
            return BAD_VALUE;
        }
        return now.recorder.numbers[place * RECORDED_NUMBERS + what];
    }

    public int count(int what) {
        if (what >= FIRST_SETTING_COUNT && what < FIRST_SETTING_COUNT + SETTINGS) {
            return now.settings[what - FIRST_SETTING_COUNT];
        }
        switch (what) {
            case 0: return now.ticks;
            case 1: return now.armedFor;
            case 2: return now.votes;
            case 3: return now.firedStages();
            case 4: return now.barred;
            case 5: return now.recorder.size;
            case 6: return now.recorder.event;
            case 7: return asNumber(now.recorder.isTaking(now.ticks));
            case 14: return pad.length;
            case 15: return undoable;
            default: return BAD_VALUE;
        }
    }

    // ---- what if; nothing changes

    public int ifTick(int zero, int one, int two, boolean closed, int what) {
        if (!areReadings(zero, one, two)) {
            return BAD_VALUE;
        }
        next.workOut(now, zero, one, two, closed);
        switch (what) {
            case 0: return next.fired;
            case 1: return next.middle + RAISED;
            case 2: return next.votes;
            case 3: return next.lowVotes;
            case 4: return next.highVotes;
            case 5: return asNumber(next.armedFor > 0);
            default: return BAD_VALUE;
        }
    }

    public int leastReading(int stage, boolean closed) {
        if (stage < 0 || stage >= STAGES) {
            return NO_SUCH;
        }
        // A reading can cost a sensor its vote, so a reading above one that fires may not fire: all are tried.
        for (int reading = -MOST_READING; reading <= MOST_READING; reading++) {
            next.workOut(now, reading, reading, reading, closed);
            if (has(next.fired, stage)) {
                return reading + RAISED;
            }
        }
        return NONE;
    }

    public int ticksTo(int stage, int reading) {
        if (stage < 0 || stage >= STAGES) {
            return NO_SUCH;
        }
        if (!isReading(reading)) {
            return BAD_VALUE;
        }
        if (now.firedIn[stage] != NONE) {
            return 0;
        }
        trial.become(now);
        for (int ticks = 1; ticks <= MOST_TICKS_AHEAD; ticks++) {
            if (has(pass(trial, reading, reading, reading, true), stage)) {
                return ticks;
            }
        }
        return NONE;
    }

    // ---- texts

    public int put(long characters) {
        int added = charactersIn(characters);
        if (added == 0) {
            return BAD_VALUE;
        }
        if (pad.length + added > PAD_LENGTH) {
            return TOO_MANY;
        }
        for (int behind = added - 1; behind >= 0; behind--) {
            pad.append((char) codeAt(characters, behind));
        }
        return pad.length;
    }

    public int wipe() {
        int length = pad.length;
        pad.length = 0;
        return length;
    }

    public int fault() {
        return pad.findFault();
    }

    public int run() {
        if (pad.findFault() != NONE) {
            return BAD_TEXT;
        }
        if (now.ticks + pad.reader.ticks > MOST_TICKS) {
            return TOO_MANY;
        }
        remember();
        Reader reader = pad.reader;
        int fired = 0;
        reader.begin();
        for (int i = 0; i < pad.length; i++) {
            if (pad.characters[i] == ';') {
                fired |= passRead(reader);
            }
            reader.accept(pad.characters[i]);
        }
        fired |= passRead(reader);
        pad.length = 0;
        return fired;
    }

    // ---- undo, saving

    public int undo() {
        if (undoable <= 0 || undoable > HISTORY) {
            return NOT_POSSIBLE;
        }
        undoable--;
        now.become(history[undoable]);
        return undoable;
    }

    public int save(int slot) {
        if (slot < 0 || slot >= SLOTS) {
            return BAD_VALUE;
        }
        slots[slot].become(now);
        isSaved[slot] = true;
        return now.ticks;
    }

    public int restore(int slot) {
        if (slot < 0 || slot >= SLOTS) {
            return BAD_VALUE;
        }
        if (!isSaved[slot]) {
            return NOT_POSSIBLE;
        }
        remember();
        now.become(slots[slot]);
        return now.ticks;
    }

    // ---- behind the face

    private static Unit[] newUnits(int size) {
        Unit[] units = new Unit[size];
        for (int i = 0; i < units.length; i++) {
            units[i] = new Unit();
        }
        return units;
    }

    private static boolean has(int set, int member) {
        return (set >> member & 1) == 1;
    }

    private static int with(int set, int member) {
        return set | 1 << member;
    }

    private static int without(int set, int member) {
        return set & ~(1 << member);
    }

    private static int asNumber(boolean isSo) {
        return isSo ? 1 : 0;
    }

    private static boolean isReading(int reading) {
        return reading >= -MOST_READING && reading <= MOST_READING;
    }

    private static boolean areReadings(int zero, int one, int two) {
        return isReading(zero) && isReading(one) && isReading(two);
    }

    /** The code of the character that has so many characters behind it. */
    private static int codeAt(long characters, int behind) {
        return (int) (characters >>> 8 * behind & 255);
    }

    /** How many characters the number gives; 0 also if it is not made of characters alone. */
    private static int charactersIn(long characters) {
        int size = 0;
        while (size < PUT_CHARACTERS && codeAt(characters, size) != 0) {
            int code = codeAt(characters, size);
            if (code < LEAST_CODE || code > MOST_CODE) {
                return 0;
            }
            size++;
        }
        // A shift by 64 would be one by 0, so a full number is not looked at above its characters.
        boolean isMoreAbove = size < PUT_CHARACTERS && characters >>> 8 * size != 0;
        return isMoreAbove ? 0 : size;
    }

    /** Records the state ahead of a change. */
    private void remember() {
        if (undoable >= HISTORY) {
            Unit oldest = history[0];
            for (int i = 1; i < HISTORY; i++) {
                history[i - 1] = history[i];
            }
            history[HISTORY - 1] = oldest;
            undoable = HISTORY - 1;
        }
        history[undoable].become(now);
        undoable++;
    }

    /** Lets a tick pass in a unit; answers the stages that fire. */
    private int pass(Unit unit, int zero, int one, int two, boolean closed) {
        next.workOut(unit, zero, one, two, closed);
        unit.take(next);
        return next.fired;
    }

    /** Lets the tick pass that a reader has come to the end of; answers the stages that fire. */
    private int passRead(Reader reader) {
        return pass(now, reader.readings[0], reader.readings[1], reader.readings[2], reader.isClosed);
    }

    /** Everything that is undone, saved and restored. */
    private static final class Unit {
        final int[] settings = new int[SETTINGS];
        final int[] offsets = new int[SENSORS];
        final int[] speeds = new int[SENSORS];
        /** For how many ticks the reading is the same; 0 ahead of the first tick that counts. */
        final int[] sameFor = new int[SENSORS];
        final int[] readings = new int[SENSORS];
        final int[] firedIn = new int[STAGES];
        final Recorder recorder = new Recorder();
        int votes = ALL_VOTES;
        int barred;
        int armedFor;
        int ticks;

        Unit() {
            for (int i = 0; i < SETTINGS; i++) {
                settings[i] = FIRST_VALUE[i];
            }
            for (int i = 0; i < STAGES; i++) {
                firedIn[i] = NONE;
            }
        }

        void become(Unit other) {
            System.arraycopy(other.settings, 0, settings, 0, SETTINGS);
            System.arraycopy(other.offsets, 0, offsets, 0, SENSORS);
            System.arraycopy(other.speeds, 0, speeds, 0, SENSORS);
            System.arraycopy(other.sameFor, 0, sameFor, 0, SENSORS);
            System.arraycopy(other.readings, 0, readings, 0, SENSORS);
            System.arraycopy(other.firedIn, 0, firedIn, 0, STAGES);
            recorder.become(other.recorder);
            votes = other.votes;
            barred = other.barred;
            armedFor = other.armedFor;
            ticks = other.ticks;
        }

        void take(Tick tick) {
            System.arraycopy(tick.offsets, 0, offsets, 0, SENSORS);
            System.arraycopy(tick.speeds, 0, speeds, 0, SENSORS);
            System.arraycopy(tick.sameFor, 0, sameFor, 0, SENSORS);
            System.arraycopy(tick.readings, 0, readings, 0, SENSORS);
            System.arraycopy(tick.firedIn, 0, firedIn, 0, STAGES);
            votes = tick.votes;
            armedFor = tick.armedFor;
            recorder.take(tick);
            ticks++;
        }

        void forgetEvent() {
            for (int i = 0; i < STAGES; i++) {
                firedIn[i] = NONE;
            }
            for (int i = 0; i < SENSORS; i++) {
                speeds[i] = 0;
            }
            armedFor = 0;
            recorder.clear();
        }

        int firedStages() {
            int fired = 0;
            for (int i = 0; i < STAGES; i++) {
                if (firedIn[i] != NONE) {
                    fired = with(fired, i);
                }
            }
            return fired;
        }
    }

    /** The latest ticks, the oldest one first, each as a row of the numbers that record() answers. */
    private static final class Recorder {
        final int[] numbers = new int[RECORDED_TICKS * RECORDED_NUMBERS];
        int size;
        /** The tick of the event, or NONE. */
        int event = NONE;

        void become(Recorder other) {
            System.arraycopy(other.numbers, 0, numbers, 0, RECORDED_TICKS * RECORDED_NUMBERS);
            size = other.size;
            event = other.event;
        }

        void clear() {
            size = 0;
            event = NONE;
        }

        boolean isTaking(int tick) {
            return event == NONE || tick - event <= TICKS_BEHIND_EVENT;
        }

        void take(Tick tick) {
            if (!isTaking(tick.number)) {
                return;
            }
            if (size >= RECORDED_TICKS) {
                dropOldest();
            }
            write(tick, size * RECORDED_NUMBERS);
            size++;
            if (event == NONE && tick.fired != 0) {
                event = tick.number;
            }
        }

        private void dropOldest() {
            size = RECORDED_TICKS - 1;
            System.arraycopy(numbers, RECORDED_NUMBERS, numbers, 0, size * RECORDED_NUMBERS);
        }

        private void write(Tick tick, int at) {
            numbers[at] = tick.number;
            for (int i = 0; i < SENSORS; i++) {
                numbers[at + 1 + i] = tick.readings[i] + RAISED;
            }
            numbers[at + 4] = asNumber(tick.isClosed);
            numbers[at + 5] = tick.middle + RAISED;
            numbers[at + 6] = tick.lowVotes;
            numbers[at + 7] = tick.highVotes;
            numbers[at + 8] = asNumber(tick.armedFor > 0);
            numbers[at + 9] = tick.fired;
        }
    }

    /** What a tick does to a unit, worked out while the unit itself stays as it is. */
    private static final class Tick {
        final int[] readings = new int[SENSORS];
        final int[] accelerations = new int[SENSORS];
        final int[] offsets = new int[SENSORS];
        final int[] speeds = new int[SENSORS];
        final int[] sameFor = new int[SENSORS];
        final int[] firedIn = new int[STAGES];
        boolean isClosed;
        int number;
        int votes;
        int middle;
        int armedFor;
        int lowVotes;
        int highVotes;
        int fired;

        void workOut(Unit unit, int zero, int one, int two, boolean closed) {
            number = unit.ticks;
            readings[0] = zero;
            readings[1] = one;
            readings[2] = two;
            isClosed = closed;
            loseStuck(unit);
            findMiddle(unit);
            loseFar(unit.settings[FAR]);
            moveOffsets(unit);
            sumSpeeds(unit);
            armedFor = closed ? unit.settings[HOLD] : Math.max(unit.armedFor - 1, 0);
            lowVotes = votesFrom(unit.settings[LOW]);
            highVotes = votesFrom(unit.settings[HIGH]);
            fireStages(unit);
        }

        private void loseStuck(Unit unit) {
            votes = unit.votes;
            for (int i = 0; i < SENSORS; i++) {
                // A counting that starts anew is at 0, so it becomes 1 whatever the latest reading was.
                sameFor[i] = unit.readings[i] == readings[i] ? unit.sameFor[i] + 1 : 1;
                if (sameFor[i] >= unit.settings[STUCK]) {
                    votes = without(votes, i);
                }
            }
        }

        private void findMiddle(Unit unit) {
            for (int i = 0; i < SENSORS; i++) {
                accelerations[i] = readings[i] - unit.offsets[i];
            }
            middle = votes == ALL_VOTES ? middleOfAll() : leastWithVote();
        }

        private int middleOfAll() {
            int lesser = Math.min(accelerations[0], accelerations[1]);
            int greater = Math.max(accelerations[0], accelerations[1]);
            return Math.max(lesser, Math.min(greater, accelerations[2]));
        }

        private int leastWithVote() {
            int least = 0;
            boolean isFound = false;
            for (int i = 0; i < SENSORS; i++) {
                if (has(votes, i)) {
                    least = isFound ? Math.min(least, accelerations[i]) : accelerations[i];
                    isFound = true;
                }
            }
            return least;
        }

        private void loseFar(int far) {
            if (votes != ALL_VOTES) {
                return;
            }
            for (int i = 0; i < SENSORS; i++) {
                if (Math.abs(accelerations[i] - middle) > far) {
                    votes = without(votes, i);
                }
            }
        }

        private void moveOffsets(Unit unit) {
            boolean isQuiet = Math.abs(middle) <= QUIET_MIDDLE && !isClosed;
            for (int i = 0; i < SENSORS; i++) {
                boolean isLearning = isQuiet && has(votes, i);
                offsets[i] = isLearning ? oneTowards(unit.offsets[i], readings[i]) : unit.offsets[i];
            }
        }

        private static int oneTowards(int from, int to) {
            if (from < to) {
                return from + 1;
            }
            return from > to ? from - 1 : from;
        }

        private void sumSpeeds(Unit unit) {
            for (int i = 0; i < SENSORS; i++) {
                boolean counts = Math.abs(accelerations[i]) > IGNORED_ACCELERATION;
                speeds[i] = unit.speeds[i] * 7 / 8 + (counts ? accelerations[i] : 0);
            }
        }

        private int votesFrom(int speed) {
            int set = 0;
            for (int i = 0; i < SENSORS; i++) {
                if (has(votes, i) && speeds[i] >= speed) {
                    set = with(set, i);
                }
            }
            return set;
        }

        private void fireStages(Unit unit) {
            System.arraycopy(unit.firedIn, 0, firedIn, 0, STAGES);
            fired = 0;
            if (armedFor <= 0) {
                return;
            }
            for (int i = 0; i < STAGES; i++) {
                if (firedIn[i] == NONE && !has(unit.barred, i) && isDue(unit, i)) {
                    firedIn[i] = number;
                    fired = with(fired, i);
                }
            }
        }

        private boolean isDue(Unit unit, int stage) {
            int delay = unit.settings[DELAY];
            boolean isLow = Integer.bitCount(lowVotes) >= VOTES_NEEDED;
            boolean isHigh = Integer.bitCount(highVotes) >= VOTES_NEEDED;
            switch (stage) {
                case 0: return isLow;
                case 1: return isLow && (hasWaited(0, delay) || has(unit.barred, 0));
                case 2: return isHigh && hasWaited(1, delay);
                default: return false;
            }
        }

        private boolean hasWaited(int stage, int delay) {
            return firedIn[stage] != NONE && number - firedIn[stage] >= delay;
        }
    }

    /** A text of ticks. */
    private static final class Pad {
        final char[] characters = new char[PAD_LENGTH];
        final Reader reader = new Reader();
        int length;

        void append(char character) {
            if (length < PAD_LENGTH) {
                characters[length] = character;
                length++;
            }
        }

        /** The fault, or NONE; behind NONE the reader tells how many ticks there are. */
        int findFault() {
            reader.begin();
            for (int i = 0; i < length; i++) {
                if (!reader.accept(characters[i])) {
                    return i;
                }
            }
            return reader.isAtTickEnd() ? NONE : length;
        }
    }

    /** Reads a text of ticks from left to right and keeps the tick that it is in. */
    private static final class Reader {
        private static final int NO_DIGIT = -1;

        final int[] readings = new int[SENSORS];
        boolean isClosed;
        /** How many ticks have begun. */
        int ticks;
        private int place;
        private boolean isNegative;
        private int digits;

        void begin() {
            ticks = 0;
            beginTick();
        }

        private void beginTick() {
            ticks++;
            isClosed = false;
            place = 0;
            beginNumber();
        }

        private void beginNumber() {
            isNegative = false;
            digits = NO_DIGIT;
        }

        /** Whether the character can stand here; if it cannot, nothing changes. */
        boolean accept(char character) {
            if (character >= '0' && character <= '9') {
                return acceptDigit(character - '0');
            }
            switch (character) {
                case '-': return acceptMinus();
                case ',': return acceptComma();
                case 'c': return acceptClosed();
                case ';': return acceptSemicolon();
                default: return false;
            }
        }

        private boolean acceptDigit(int digit) {
            // Behind a 0 no digit can stand: it would be a leading zero.
            if (isClosed || digits == 0) {
                return false;
            }
            int longer = digits == NO_DIGIT ? digit : digits * 10 + digit;
            if (longer > MOST_READING || place < 0 || place >= SENSORS) {
                return false;
            }
            digits = longer;
            readings[place] = isNegative ? -digits : digits;
            return true;
        }

        private boolean acceptMinus() {
            if (isNegative || digits != NO_DIGIT) {
                return false;
            }
            isNegative = true;
            return true;
        }

        private boolean acceptComma() {
            if (digits == NO_DIGIT || place >= SENSORS - 1) {
                return false;
            }
            place++;
            beginNumber();
            return true;
        }

        private boolean acceptClosed() {
            if (!isAtTickEnd() || isClosed) {
                return false;
            }
            isClosed = true;
            return true;
        }

        private boolean acceptSemicolon() {
            if (!isAtTickEnd()) {
                return false;
            }
            beginTick();
            return true;
        }

        /** Whether the tick could end here. */
        boolean isAtTickEnd() {
            return place == SENSORS - 1 && digits != NO_DIGIT;
        }
    }
}
