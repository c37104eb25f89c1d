/** Runs of calls that many tests need. */
final class Calls {
    static final int RAISED = 100000;

    private Calls() {
    }

    /** The number that put takes for one to eight characters. */
    static long asNumber(String text) {
        long number = 0;
        for (int i = 0; i < text.length(); i++) {
            number = number << 8 | text.charAt(i);
        }
        return number;
    }

    /** Puts a text of any length; answers what the last put answered. */
    static int putAll(VotedCharge unit, String text) {
        int answer = 0;
        for (int at = 0; at < text.length(); at += 8) {
            answer = unit.put(asNumber(text.substring(at, Math.min(text.length(), at + 8))));
        }
        return answer;
    }

    static int tickAll(VotedCharge unit, int reading, boolean closed) {
        return unit.tick(reading, reading, reading, closed);
    }

    /** The fault of a text on a new object. */
    static int faultOf(String text) {
        VotedCharge unit = new VotedCharge();
        putAll(unit, text);
        return unit.fault();
    }

    /** Everything that the looking calls tell, as one text. */
    static String look(VotedCharge unit) {
        StringBuilder seen = new StringBuilder();
        for (int sensor = 0; sensor < 3; sensor++) {
            for (int what = 0; what <= 4; what++) {
                seen.append(unit.sensor(sensor, what)).append(' ');
            }
        }
        for (int stage = 0; stage < 3; stage++) {
            seen.append(unit.stage(stage, 0)).append(' ').append(unit.stage(stage, 1)).append(' ');
        }
        for (int place = 0; place < 12; place++) {
            for (int what = 0; what <= 9; what++) {
                seen.append(unit.record(place, what)).append(' ');
            }
        }
        for (int what = 0; what <= 13; what++) {
            seen.append(unit.count(what)).append(' ');
        }
        return seen.toString();
    }
}
