import java.util.ArrayDeque;
import java.util.ArrayList;
import java.util.Arrays;
import java.util.Collections;
import java.util.Deque;
import java.util.List;
import java.util.regex.Matcher;
import java.util.regex.Pattern;

/**
 * The document again, as plainly as the Java library allows and with nothing of the program's: all readings are kept,
 * states are copied whole, texts are matched with a pattern.
 */
final class PlainModel {
    private static final int[] LOWEST = {1, 1, 1, 2, 1, 0};
    private static final int[] HIGHEST = {2000, 2000, 50, 50, 500, 20};
    private static final String NUMBER = "-?(?:0|500|[1-4][0-9][0-9]|[1-9][0-9]|[1-9])";
    private static final String ONE_TICK = NUMBER + "," + NUMBER + "," + NUMBER + "c?";
    private static final Pattern TEXT = Pattern.compile(ONE_TICK + "(?:;" + ONE_TICK + ")*");

    private static final class Sensor {
        int offset;
        int speed;
        boolean votes = true;
        int latest;
        List<Integer> readings = new ArrayList<>();

        Sensor copy() {
            Sensor copy = new Sensor();
            copy.offset = offset;
            copy.speed = speed;
            copy.votes = votes;
            copy.latest = latest;
            copy.readings = new ArrayList<>(readings);
            return copy;
        }

        int sameFor() {
            int same = 0;
            for (int i = readings.size() - 1; i >= 0 && readings.get(i) == latest; i--) {
                same++;
            }
            return same;
        }
    }

    private static final class State {
        int[] settings = {60, 150, 5, 8, 40, 2};
        Sensor[] sensors = {new Sensor(), new Sensor(), new Sensor()};
        int[] fired = {-6, -6, -6};
        boolean[] barred = new boolean[3];
        int arming;
        int ticks;
        int event = -6;
        List<int[]> rows = new ArrayList<>();
        int[] lastRow;

        State copy() {
            State copy = new State();
            copy.settings = settings.clone();
            for (int i = 0; i < 3; i++) {
                copy.sensors[i] = sensors[i].copy();
            }
            copy.fired = fired.clone();
            copy.barred = barred.clone();
            copy.arming = arming;
            copy.ticks = ticks;
            copy.event = event;
            copy.rows = new ArrayList<>(rows);
            copy.lastRow = lastRow;
            return copy;
        }

        boolean takes() {
            return event == -6 || ticks <= event + 6;
        }

        int votes() {
            return mask(sensors[0].votes, sensors[1].votes, sensors[2].votes);
        }

        int tick(int[] readings, boolean closed) {
            for (int i = 0; i < 3; i++) {
                sensors[i].latest = readings[i];
                sensors[i].readings.add(readings[i]);
                List<Integer> all = sensors[i].readings;
                int stuck = settings[3];
                if (all.size() >= stuck) {
                    List<Integer> tail = all.subList(all.size() - stuck, all.size());
                    if (Collections.frequency(tail, readings[i]) == stuck) {
                        sensors[i].votes = false;
                    }
                }
            }
            int[] accelerations = new int[3];
            List<Integer> sorted = new ArrayList<>();
            for (int i = 0; i < 3; i++) {
                accelerations[i] = readings[i] - sensors[i].offset;
                if (sensors[i].votes) {
                    sorted.add(accelerations[i]);
                }
            }
            Collections.sort(sorted);
            int middle = sorted.isEmpty() ? 0 : sorted.get((sorted.size() - 1) / 2);
            if (sorted.size() == 3) {
                for (int i = 0; i < 3; i++) {
                    int away = accelerations[i] > middle ? accelerations[i] - middle : middle - accelerations[i];
                    sensors[i].votes = away <= settings[4];
                }
            }
            if (middle >= -3 && middle <= 3 && !closed) {
                for (int i = 0; i < 3; i++) {
                    if (sensors[i].votes) {
                        sensors[i].offset += Integer.signum(readings[i] - sensors[i].offset);
                    }
                }
            }
            for (int i = 0; i < 3; i++) {
                sensors[i].speed = sensors[i].speed * 7 / 8;
                if (accelerations[i] > 4 || accelerations[i] < -4) {
                    sensors[i].speed += accelerations[i];
                }
            }
            arming = closed ? settings[2] : arming > 0 ? arming - 1 : 0;
            int low = 0;
            int high = 0;
            for (int i = 0; i < 3; i++) {
                low += sensors[i].votes && sensors[i].speed >= settings[0] ? 1 << i : 0;
                high += sensors[i].votes && sensors[i].speed >= settings[1] ? 1 << i : 0;
            }
            boolean lows = low == 3 || low >= 5;
            boolean highs = high == 3 || high >= 5;
            int now = 0;
            if (arming > 0) {
                if (lows && fired[0] == -6 && !barred[0]) {
                    fired[0] = ticks;
                    now += 1;
                }
                if (lows && fired[1] == -6 && !barred[1]
                    && (barred[0] || fired[0] != -6 && fired[0] + settings[5] <= ticks)) {
                    fired[1] = ticks;
                    now += 2;
                }
                if (highs && fired[2] == -6 && !barred[2] && fired[1] != -6 && fired[1] + settings[5] <= ticks) {
                    fired[2] = ticks;
                    now += 4;
                }
            }
            lastRow = new int[] {ticks, readings[0] + 100000, readings[1] + 100000, readings[2] + 100000,
                closed ? 1 : 0, middle + 100000, low, high, arming > 0 ? 1 : 0, now};
            if (takes()) {
                rows.add(lastRow);
                if (rows.size() == 13) {
                    rows.remove(0);
                }
            }
            if (now != 0 && event == -6) {
                event = ticks;
            }
            ticks++;
            return now;
        }
    }

    private State state = new State();
    private final Deque<State> history = new ArrayDeque<>();
    private final State[] slots = new State[2];
    private String pad = "";

    private static int mask(boolean zero, boolean one, boolean two) {
        return (zero ? 1 : 0) + (one ? 2 : 0) + (two ? 4 : 0);
    }

    private static boolean in(int value, int least, int most) {
        return least <= value && value <= most;
    }

    private void change() {
        history.addLast(state.copy());
        if (history.size() == 7) {
            history.removeFirst();
        }
    }

    int set(int setting, int value) {
        if (!in(setting, 0, 5) || !in(value, LOWEST[setting], HIGHEST[setting])) {
            return -2;
        }
        change();
        int previous = state.settings[setting];
        state.settings[setting] = value;
        return previous;
    }

    int tick(int zero, int one, int two, boolean closed) {
        if (!in(zero, -500, 500) || !in(one, -500, 500) || !in(two, -500, 500)) {
            return -2;
        }
        change();
        return state.tick(new int[] {zero, one, two}, closed);
    }

    int bar(int stage, boolean isBarred) {
        if (!in(stage, 0, 2)) {
            return -1;
        }
        if (state.barred[stage] == isBarred || state.fired[stage] != -6) {
            return -5;
        }
        change();
        state.barred[stage] = isBarred;
        return count(4);
    }

    int test(int sensor) {
        if (!in(sensor, 0, 2)) {
            return -1;
        }
        if (count(3) != 0) {
            return -5;
        }
        change();
        int latest = state.sensors[sensor].latest;
        int lost = state.sensors[sensor].votes ? 0 : 1;
        state.sensors[sensor] = new Sensor();
        state.sensors[sensor].latest = latest;
        return lost;
    }

    int service() {
        change();
        int fired = 0;
        for (int i = 0; i < 3; i++) {
            fired += state.fired[i] == -6 ? 0 : 1;
            state.fired[i] = -6;
            state.sensors[i].speed = 0;
        }
        state.rows.clear();
        state.event = -6;
        state.arming = 0;
        return fired;
    }

    int sensor(int sensor, int what) {
        if (!in(sensor, 0, 2)) {
            return -1;
        }
        if (!in(what, 0, 4)) {
            return -2;
        }
        Sensor one = state.sensors[sensor];
        int latest = state.ticks == 0 ? -6 : one.latest + 100000;
        return new int[] {one.offset + 100000, one.speed + 100000, one.votes ? 1 : 0, one.sameFor(), latest}[what];
    }

    int stage(int stage, int what) {
        if (!in(stage, 0, 2)) {
            return -1;
        }
        if (!in(what, 0, 1)) {
            return -2;
        }
        return what == 0 ? state.fired[stage] : state.barred[stage] ? 1 : 0;
    }

    int record(int place, int what) {
        if (!in(place, 0, state.rows.size() - 1)) {
            return -1;
        }
        return in(what, 0, 9) ? state.rows.get(place)[what] : -2;
    }

    int count(int what) {
        if (!in(what, 0, 15)) {
            return -2;
        }
        int[] fired = state.fired;
        return new int[] {state.ticks, state.arming, state.votes(),
            mask(fired[0] != -6, fired[1] != -6, fired[2] != -6),
            mask(state.barred[0], state.barred[1], state.barred[2]), state.rows.size(), state.event,
            state.takes() ? 1 : 0, state.settings[0], state.settings[1], state.settings[2], state.settings[3],
            state.settings[4], state.settings[5], pad.length(), history.size()}[what];
    }

    int ifTick(int zero, int one, int two, boolean closed, int what) {
        if (!in(zero, -500, 500) || !in(one, -500, 500) || !in(two, -500, 500) || !in(what, 0, 5)) {
            return -2;
        }
        State copy = state.copy();
        int fired = copy.tick(new int[] {zero, one, two}, closed);
        int[] row = copy.lastRow;
        return new int[] {fired, row[5], copy.votes(), row[6], row[7], row[8]}[what];
    }

    int leastReading(int stage, boolean closed) {
        if (!in(stage, 0, 2)) {
            return -1;
        }
        for (int reading = -500; reading <= 500; reading++) {
            State copy = state.copy();
            copy.tick(new int[] {reading, reading, reading}, closed);
            if (state.fired[stage] == -6 && copy.fired[stage] != -6) {
                return reading + 100000;
            }
        }
        return -6;
    }

    int ticksTo(int stage, int reading) {
        if (!in(stage, 0, 2)) {
            return -1;
        }
        if (!in(reading, -500, 500)) {
            return -2;
        }
        State copy = state.copy();
        int ticks = 0;
        while (copy.fired[stage] == -6 && ticks < 51) {
            copy.tick(new int[] {reading, reading, reading}, true);
            ticks++;
        }
        return ticks == 51 ? -6 : ticks;
    }

    int put(long characters) {
        StringBuilder reversed = new StringBuilder();
        long rest = characters;
        while (rest != 0) {
            int code = (int) (rest & 0xFF);
            if (!in(code, 33, 126)) {
                return -2;
            }
            reversed.append((char) code);
            rest >>>= 8;
        }
        if (reversed.length() == 0) {
            return -2;
        }
        if (pad.length() + reversed.length() > 80) {
            return -4;
        }
        pad += reversed.reverse();
        return pad.length();
    }

    int wipe() {
        int length = pad.length();
        pad = "";
        return length;
    }

    int fault() {
        if (TEXT.matcher(pad).matches()) {
            return -6;
        }
        for (int length = 1; length <= pad.length(); length++) {
            Matcher matcher = TEXT.matcher(pad.substring(0, length));
            if (!matcher.matches() && !matcher.hitEnd()) {
                return length - 1;
            }
        }
        return pad.length();
    }

    int run() {
        if (fault() != -6) {
            return -3;
        }
        change();
        int fired = 0;
        for (String tick : pad.split(";")) {
            String[] numbers = tick.replace("c", "").split(",");
            int[] readings = Arrays.stream(numbers).mapToInt(Integer::parseInt).toArray();
            fired |= state.tick(readings, tick.endsWith("c"));
        }
        pad = "";
        return fired;
    }

    int undo() {
        if (history.isEmpty()) {
            return -5;
        }
        state = history.removeLast();
        return history.size();
    }

    int save(int slot) {
        if (!in(slot, 0, 1)) {
            return -2;
        }
        slots[slot] = state.copy();
        return state.ticks;
    }

    int restore(int slot) {
        if (!in(slot, 0, 1)) {
            return -2;
        }
        if (slots[slot] == null) {
            return -5;
        }
        change();
        state = slots[slot].copy();
        return state.ticks;
    }
}
