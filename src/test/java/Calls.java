/** Runs of calls that many tests need. */
final class Calls {
    static final int RAISED = 100000;

    private Calls() {
    }

    /** The number that put takes for one to eight characters. */
    static long asNumber(String text) {
        long number = 0;
        for (int i = 0; i < text.length(); i++) {
            number = number << 8 | text.charAt(i);
        }
        return number;
    }

    /** Puts a text of any length; answers what the last put answered. */
    static int putAll(VotedCharge unit, String text) {
        int answer = 0;
        for (int at = 0; at < text.length(); at += 8) {
            answer = unit.put(asNumber(text.substring(at, Math.min(text.length(), at + 8))));
        }
        return answer;
    }

    static int tickAll(VotedCharge unit, int reading, boolean closed) {
        return unit.tick(reading, reading, reading, closed);
    }

    /** The fault of a text on a new object. */
    static int faultOf(String text) {
        VotedCharge unit = new VotedCharge();
        putAll(unit, text);
        return unit.fault();
    }

    /** Everything that the looking calls tell, as one text. */
    static String look(VotedCharge unit) {
        StringBuilder seen = new StringBuilder();
        for (int sensor = 0; sensor < 3; sensor++) {
            for (int what = 0; what <= 4; what++) {
                seen.append(unit.sensor(sensor, what)).append(' ');
            }
        }
        for (int stage = 0; stage < 3; stage++) {
            seen.append(unit.stage(stage, 0)).append(' ').append(unit.stage(stage, 1)).append(' ');
        }
        for (int place = 0; place < 12; place++) {
            for (int what = 0; what <= 9; what++) {
                seen.append(unit.record(place, what)).append(' ');
            }
        }
        for (int what = 0; what <= 13; what++) {
            seen.append(unit.count(what)).append(' ');
        }
        return seen.toString();
    }

    /** Less than look, so that it can be called behind each of the steps of one object. */
    static String glance(VotedCharge unit) {
        StringBuilder seen = new StringBuilder();
        for (int sensor = 0; sensor < 3; sensor++) {
            for (int what = 0; what <= 4; what++) {
                seen.append(unit.sensor(sensor, what)).append(' ');
            }
        }
        for (int what = 0; what <= 13; what++) {
            seen.append(unit.count(what)).append(' ');
        }
        for (int stage = 0; stage < 3; stage++) {
            seen.append(unit.stage(stage, 0)).append(' ');
        }
        seen.append(unit.record(0, 0)).append(' ').append(unit.record(unit.count(5) - 1, 5)).append(' ');
        return seen.append(unit.count(14)).append(' ').append(unit.fault()).append('\n').toString();
    }

    /** Everything that an object holds: its state, its pad, its history and its slots. Uses it up. */
    static String holdings(VotedCharge unit) {
        StringBuilder seen = new StringBuilder(glance(unit));
        int left = unit.count(15);
        seen.append(left).append('\n');
        while (left > 0) {
            left = unit.undo();
            seen.append(left).append(' ').append(glance(unit));
        }
        for (int slot = 0; slot < 2; slot++) {
            seen.append(unit.restore(slot)).append(' ').append(glance(unit));
        }
        seen.append(putAll(unit, ",3")).append(' ').append(unit.run()).append(' ').append(glance(unit));
        return seen.toString();
    }

    /** A unit whose sensors have these votes, no speeds and no offsets, and of whose ticks two have passed. */
    static VotedCharge withVotes(int votes) {
        VotedCharge unit = new VotedCharge();
        unit.set(VotedCharge.STUCK, 2);
        tickAll(unit, 0, true);
        unit.tick(votes & 1, votes >> 1 & 1, votes >> 2 & 1, true);
        unit.set(VotedCharge.STUCK, 50);
        Due.is("votes", unit.count(2), votes);
        return unit;
    }

    /** A unit that so many ticks have passed in, far behind the 512 calls if they are many. */
    static VotedCharge behindTicks(int ticks) {
        VotedCharge unit = new VotedCharge();
        for (int i = 0; i < ticks; i++) {
            unit.tick(i & 1, i & 2, i % 3, false);
        }
        return unit;
    }
}
