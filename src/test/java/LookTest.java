/** Promises 7 to 10: sensor, stage, record, count. */
public final class LookTest {
    private static final int[] OUTSIDE = {-1, Integer.MIN_VALUE, Integer.MAX_VALUE};

    public static void main(String[] args) {
        sensor();
        stage();
        recordOfEachNumber();
        recordErrors();
        recordOfTheLatest();
        recordAroundAnEvent();
        recordOfAnEarlyEvent();
        recordBehindService();
        count();
        lookingChangesNothing();
        Due.end();
    }

    private static void sensor() {
        VotedCharge unit = new VotedCharge();
        for (int what : OUTSIDE) {
            Due.is("no such sensor", unit.sensor(what, 0), -1);
            Due.is("what is out of range", unit.sensor(0, what), -2);
        }
        Due.is("sensor(3)", unit.sensor(3, 0), -1);
        Due.is("sensor(0, 5)", unit.sensor(0, 5), -2);
        Due.is("no such sensor is told first", unit.sensor(3, 5), -1);
        unit.tick(-3, 50, 0, false);
        unit.tick(-3, 51, 0, false);
        Due.is("offset 0", unit.sensor(0, 0), 99998);
        Due.is("offset 1", unit.sensor(1, 0), 100000);
        Due.is("speed 1", unit.sensor(1, 1), 100000 + 43 + 51);
        Due.is("1 has no vote", unit.sensor(1, 2), 0);
        Due.is("2 has a vote", unit.sensor(2, 2), 1);
        Due.is("same for", unit.sensor(0, 3), 2);
        Due.is("same for one", unit.sensor(1, 3), 1);
        Due.is("latest 0", unit.sensor(0, 4), 99997);
        Due.is("latest 1", unit.sensor(1, 4), 100051);
        Due.is("latest 2", unit.sensor(2, 4), 100000);
        unit.tick(-500, 500, 1, true);
        Due.is("the least reading", unit.sensor(0, 4), 99500);
        Due.is("the most", unit.sensor(1, 4), 100500);
        unit.undo();
        unit.undo();
        unit.undo();
        Due.is("ahead of the first tick again", unit.sensor(1, 4), -6);
        Due.is("same for none again", unit.sensor(1, 3), 0);
    }

    private static void stage() {
        VotedCharge unit = new VotedCharge();
        for (int what : OUTSIDE) {
            Due.is("no such stage", unit.stage(what, 0), -1);
            Due.is("what is out of range", unit.stage(0, what), -2);
        }
        Due.is("stage(3)", unit.stage(3, 0), -1);
        Due.is("stage(0, 2)", unit.stage(0, 2), -2);
        Due.is("no such stage is told first", unit.stage(3, 2), -1);
        unit.bar(1, true);
        Due.is("1 is barred", unit.stage(1, 1), 1);
        Due.is("0 is not", unit.stage(0, 1), 0);
        Due.is("2 is not", unit.stage(2, 1), 0);
        Calls.tickAll(unit, 0, true);
        Calls.tickAll(unit, 90, false);
        Due.is("0 fired in 1", unit.stage(0, 0), 1);
        Due.is("1 did not", unit.stage(1, 0), -6);
    }

    private static void recordOfEachNumber() {
        VotedCharge unit = new VotedCharge();
        unit.set(VotedCharge.DELAY, 0);
        Due.is("it fires", unit.tick(160, 170, 210, true), 7);
        unit.tick(-500, 1, -9, false);
        int[][] rows = {
            {0, 100160, 100170, 100210, 1, 100170, 7, 7, 1, 7},
            {1, 99500, 100001, 99991, 0, 99991, 6, 4, 1, 0}};
        for (int place = 0; place < rows.length; place++) {
            for (int what = 0; what < 10; what++) {
                Due.is("record(" + place + ", " + what + ")", unit.record(place, what), rows[place][what]);
            }
        }
        unit = new VotedCharge();
        unit.tick(10, 10, 10, false);
        Due.is("not closed", unit.record(0, 4), 0);
        Due.is("not armed", unit.record(0, 8), 0);
        unit.tick(11, 11, 11, true);
        Due.is("closed", unit.record(1, 4), 1);
        Due.is("armed", unit.record(1, 8), 1);
        unit.tick(55, 50, 52, false);
        Due.is("open, but armed: closed", unit.record(2, 4), 0);
        Due.is("open, but armed: armed", unit.record(2, 8), 1);
        unit.set(VotedCharge.LOW, 2000);
        Due.is("the record stays", unit.record(2, 6), 7);
    }

    private static void recordErrors() {
        VotedCharge unit = new VotedCharge();
        Due.is("empty", unit.record(0, 0), -1);
        Due.is("empty, and what is out of range", unit.record(0, 10), -1);
        Calls.tickAll(unit, 1, false);
        Due.is("the first place", unit.record(0, 0), 0);
        Due.is("behind the last place", unit.record(1, 0), -1);
        for (int outside : OUTSIDE) {
            Due.is("no such place", unit.record(outside, 0), -1);
            Due.is("what is out of range", unit.record(0, outside), -2);
        }
        Due.is("record(0, 10)", unit.record(0, 10), -2);
        Due.is("no such place is told first", unit.record(1, 10), -1);
    }

    private static void recordOfTheLatest() {
        VotedCharge unit = new VotedCharge();
        for (int tick = 0; tick < 30; tick++) {
            unit.tick(tick % 4, tick % 3, 0, false);
            int size = Math.min(tick + 1, 12);
            Due.is("size", unit.count(5), size);
            Due.is("the first", unit.record(0, 0), tick + 1 - size);
            Due.is("the last", unit.record(size - 1, 0), tick);
            Due.is("its reading", unit.record(size - 1, 1), 100000 + tick % 4);
            Due.is("the first one's reading", unit.record(0, 2), 100000 + (tick + 1 - size) % 3);
            Due.is("behind the last", unit.record(size, 0), -1);
            Due.is("it takes ticks", unit.count(7), 1);
        }
    }

    private static void recordAroundAnEvent() {
        VotedCharge unit = new VotedCharge();
        for (int tick = 0; tick < 20; tick++) {
            unit.tick(tick % 4, tick % 3, 0, true);
        }
        Due.is("the event", unit.tick(80, 81, 82, true), 1);
        Due.is("its tick", unit.count(6), 20);
        for (int tick = 21; tick <= 26; tick++) {
            Due.is("it takes ticks", unit.count(7), 1);
            unit.tick(80 + tick % 2, 81 + tick % 3, 82 - tick % 2, true);
            Due.is("the last", unit.record(11, 0), tick);
        }
        Due.is("no more", unit.count(7), 0);
        for (int tick = 27; tick < 40; tick++) {
            unit.tick(tick % 4, tick % 3, 0, true);
            Due.is("takes no more", unit.count(7), 0);
            Due.is("size", unit.count(5), 12);
            Due.is("the first", unit.record(0, 0), 15);
            Due.is("the event's place", unit.record(5, 9), 1);
            Due.is("the last", unit.record(11, 0), 26);
        }
        Due.is("the event stays", unit.count(6), 20);
        Due.is("two stages fired behind it", unit.count(3), 7);
    }

    private static void recordOfAnEarlyEvent() {
        VotedCharge unit = new VotedCharge();
        unit.bar(1, true);
        unit.set(VotedCharge.DELAY, 0);
        for (int tick = 0; tick < 10; tick++) {
            unit.tick(90 + tick, 90 + tick % 2, 90, true);
            Due.is("size", unit.count(5), Math.min(tick + 1, 7));
            Due.is("takes", unit.count(7), tick < 6 ? 1 : 0);
        }
        Due.is("the event is the first tick", unit.count(6), 0);
        unit.bar(1, false);
        Due.is("others fire later", unit.tick(90, 91, 90, true), 6);
        Due.is("that is no new event", unit.count(6), 0);
        Due.is("and takes no ticks", unit.count(5), 7);
    }

    private static void recordBehindService() {
        VotedCharge unit = new VotedCharge();
        for (int tick = 0; tick < 9; tick++) {
            unit.tick(100 - tick, 100, 99, true);
        }
        Due.is("it rests", unit.count(7), 0);
        unit.service();
        Due.is("it is empty", unit.record(0, 0), -1);
        unit.tick(1, 2, 3, false);
        Due.is("it takes the tick 9", unit.record(0, 0), 9);
        Due.is("its reading", unit.record(0, 3), 100003);
        Due.is("one tick", unit.count(5), 1);
        Due.is("no event yet", unit.count(6), -6);
    }

    private static void count() {
        VotedCharge unit = new VotedCharge();
        for (int outside : OUTSIDE) {
            Due.is("what is out of range", unit.count(outside), -2);
        }
        Due.is("count(16)", unit.count(16), -2);
        for (int setting = 0; setting < 6; setting++) {
            unit.set(setting, 10 + setting);
        }
        unit.bar(2, true);
        unit.tick(10, 40, 12, true);
        unit.put(Calls.asNumber("1,2"));
        int[] due = {1, 12, 5, 1, 4, 1, 0, 1, 10, 11, 12, 13, 14, 15, 3, 6};
        for (int what = 0; what < due.length; what++) {
            Due.is("count(" + what + ")", unit.count(what), due[what]);
        }
    }

    private static void lookingChangesNothing() {
        VotedCharge unit = new VotedCharge();
        Calls.tickAll(unit, 100, true);
        String before = Calls.look(unit);
        Due.is("one change", unit.count(15), 1);
        Due.is("looking changes nothing", before.equals(Calls.look(unit)) ? 1 : 0, 1);
        Due.is("one change yet", unit.count(15), 1);
    }

    private LookTest() {
    }
}
