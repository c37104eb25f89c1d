/** Long runs of calls, the same ones each time, on the program and on the plain model. */
public final class ModelTest {
    private static final int RUNS = 1500;
    private static final int CALLS = 512;

    private long seed;
    private final VotedCharge unit = new VotedCharge();
    private final PlainModel model = new PlainModel();
    /** Around which all readings of a while lie. */
    private int level;
    private int spread = 3;
    private final int wildness;

    private ModelTest(int run) {
        seed = run * 7919L + 17;
        wildness = run % 4;
    }

    public static void main(String[] args) {
        for (int run = 0; run < RUNS && Due.wrong() == 0; run++) {
            ModelTest test = new ModelTest(run);
            for (int call = 0; call < CALLS && Due.wrong() == 0; call++) {
                test.callOne("run " + run + ", call " + call + ": ");
            }
            test.lookAtAll("run " + run + ", at its end: ");
        }
        Due.end();
    }

    private int below(int bound) {
        seed = seed * 6364136223846793005L + 1442695040888963407L;
        return (int) ((seed >>> 33) % bound);
    }

    private boolean oneIn(int bound) {
        return below(bound) == 0;
    }

    private int reading() {
        if (oneIn(120)) {
            return new int[] {-501, 501, -500, 500, Integer.MIN_VALUE, Integer.MAX_VALUE}[below(6)];
        }
        if (oneIn(25)) {
            return below(1001) - 500;
        }
        return Math.max(-500, Math.min(500, level + below(2 * spread + 1) - spread));
    }

    private int member(int size) {
        return oneIn(40) ? new int[] {-1, size, Integer.MIN_VALUE, Integer.MAX_VALUE, 32}[below(5)] : below(size);
    }

    private void moveLevel() {
        if (oneIn(8)) {
            level = new int[] {0, 0, 1, -2, 10, 30, 60, 100, -60, 300}[below(10)];
            spread = new int[] {0, 1, 3, 10, 30, 60}[below(6)];
        }
    }

    private void callOne(String where) {
        moveLevel();
        int kind = below(100);
        if (kind < 40) {
            callTick(where);
        } else if (kind < 52) {
            callChange(where);
        } else if (kind < 74) {
            callLook(where);
        } else if (kind < 82) {
            callWhatIf(where);
        } else if (kind < 92) {
            callText(where);
        } else {
            callHistory(where);
        }
    }

    private void callTick(String where) {
        int zero = reading();
        int one = reading();
        int two = reading();
        boolean closed = oneIn(3);
        String call = where + "tick(" + zero + ", " + one + ", " + two + ", " + closed + ")";
        Due.is(call, unit.tick(zero, one, two, closed), model.tick(zero, one, two, closed));
    }

    private void callChange(String where) {
        int kind = below(10);
        if (kind < 3) {
            int setting = member(6);
            int value = value(setting);
            Due.is(where + "set(" + setting + ", " + value + ")", unit.set(setting, value), model.set(setting, value));
        } else if (kind < 6) {
            int stage = member(3);
            boolean isBarred = oneIn(2);
            Due.is(where + "bar(" + stage + ", " + isBarred + ")", unit.bar(stage, isBarred), model.bar(stage, isBarred));
        } else if (kind < 9) {
            int sensor = member(3);
            Due.is(where + "test(" + sensor + ")", unit.test(sensor), model.test(sensor));
        } else {
            Due.is(where + "service()", unit.service(), model.service());
        }
    }

    private int value(int setting) {
        if (setting < 0 || setting > 5 || oneIn(10)) {
            return new int[] {-1, 0, 1, 2, 20, 21, 50, 51, 500, 501, 2000, 2001, Integer.MIN_VALUE}[below(13)];
        }
        int[] most = wildness < 2 ? new int[] {200, 300, 50, 12, 80, 6} : new int[] {2000, 2000, 50, 50, 500, 20};
        return below(most[setting] + 1);
    }

    private void callLook(String where) {
        int kind = below(10);
        if (kind < 3) {
            int sensor = member(3);
            int what = member(5);
            String call = where + "sensor(" + sensor + ", " + what + ")";
            Due.is(call, unit.sensor(sensor, what), model.sensor(sensor, what));
        } else if (kind < 5) {
            int stage = member(3);
            int what = member(2);
            Due.is(where + "stage(" + stage + ", " + what + ")", unit.stage(stage, what), model.stage(stage, what));
        } else if (kind < 8) {
            int place = member(12);
            int what = member(10);
            Due.is(where + "record(" + place + ", " + what + ")", unit.record(place, what), model.record(place, what));
        } else {
            int what = member(16);
            Due.is(where + "count(" + what + ")", unit.count(what), model.count(what));
        }
    }

    private void lookAtAll(String where) {
        for (int what = -1; what <= 16; what++) {
            Due.is(where + "count(" + what + ")", unit.count(what), model.count(what));
            for (int number = -1; number <= 12; number++) {
                String call = "(" + number + ", " + what + ")";
                Due.is(where + "sensor" + call, unit.sensor(number, what), model.sensor(number, what));
                Due.is(where + "stage" + call, unit.stage(number, what), model.stage(number, what));
                Due.is(where + "record" + call, unit.record(number, what), model.record(number, what));
            }
        }
    }

    private void callWhatIf(String where) {
        int kind = below(20);
        if (kind < 12) {
            int zero = reading();
            int one = reading();
            int two = reading();
            boolean closed = oneIn(2);
            int what = member(6);
            String call = where + "ifTick(" + zero + ", " + one + ", " + two + ", " + closed + ", " + what + ")";
            Due.is(call, unit.ifTick(zero, one, two, closed, what), model.ifTick(zero, one, two, closed, what));
        } else if (kind < 14) {
            int stage = member(3);
            boolean closed = oneIn(2);
            String call = where + "leastReading(" + stage + ", " + closed + ")";
            Due.is(call, unit.leastReading(stage, closed), model.leastReading(stage, closed));
        } else {
            int stage = member(3);
            int reading = reading();
            String call = where + "ticksTo(" + stage + ", " + reading + ")";
            Due.is(call, unit.ticksTo(stage, reading), model.ticksTo(stage, reading));
        }
    }

    private void callText(String where) {
        int kind = below(10);
        if (kind < 6) {
            String text = text();
            for (int at = 0; at < text.length(); at += 8) {
                long number = Calls.asNumber(text.substring(at, Math.min(text.length(), at + 8)));
                Due.is(where + "put(" + number + ")", unit.put(number), model.put(number));
            }
        } else if (kind < 7) {
            long number = (long) below(1 << 30) << below(34);
            Due.is(where + "put(" + number + ")", unit.put(number), model.put(number));
        } else if (kind < 8) {
            Due.is(where + "fault()", unit.fault(), model.fault());
        } else if (kind < 9) {
            Due.is(where + "wipe()", unit.wipe(), model.wipe());
        }
        Due.is(where + "fault()", unit.fault(), model.fault());
        if (oneIn(2)) {
            Due.is(where + "run()", unit.run(), model.run());
        }
    }

    /** A text that is often one of ticks, and at times not quite. */
    private String text() {
        StringBuilder text = new StringBuilder(model.count(14) == 0 || oneIn(5) ? "" : ";");
        int ticks = 1 + below(3);
        for (int i = 0; i < ticks; i++) {
            text.append(i == 0 ? "" : ";").append(reading()).append(',').append(reading()).append(',').append(reading());
            text.append(oneIn(3) ? "c" : "");
        }
        if (oneIn(4)) {
            text.insert(below(text.length() + 1), "0123456789-,;cx~!".charAt(below(17)));
        }
        if (oneIn(8)) {
            text.deleteCharAt(below(text.length()));
        }
        return text.toString();
    }

    private void callHistory(String where) {
        int kind = below(10);
        int slot = member(2);
        if (kind < 5) {
            Due.is(where + "undo()", unit.undo(), model.undo());
        } else if (kind < 7) {
            Due.is(where + "save(" + slot + ")", unit.save(slot), model.save(slot));
        } else {
            Due.is(where + "restore(" + slot + ")", unit.restore(slot), model.restore(slot));
        }
    }
}
