/** The sentences of the promises 7 to 10: sensor, stage, record, count. */
final class LookSentences {
    private static final int[] FAR_OUTSIDE = {-1, -2, Integer.MIN_VALUE, Integer.MAX_VALUE};

    private LookSentences() {
    }

    static void check(Document document) {
        document.section("Promise 7");
        sensor(document);
        sameFor(document);
        latestReading(document);
        sensorErrors(document);
        document.section("Promise 8");
        stage(document);
        stageErrors(document);
        document.section("Promise 9");
        record(document);
        recordVotes(document);
        recordErrors(document);
        document.section("Promise 10");
        count(document);
        countRecorder(document);
        countRest(document);
    }

    private static void sensor(Document document) {
        document.sentence("Returns something about a sensor.");
        VotedCharge unit = new VotedCharge();
        unit.tick(-3, 1, 90, false);
        int[][] due = {{99999, 100000, 1, 1, 99997}, {100001, 100000, 1, 1, 100001}, {100000, 100090, 0, 1, 100090}};
        for (int sensor = 0; sensor < 3; sensor++) {
            for (int what = 0; what < 5; what++) {
                Due.is("sensor(" + sensor + ", " + what + ")", unit.sensor(sensor, what), due[sensor][what]);
            }
        }
        document.sentence("- `what`: 0 its offset, and 100000, 1 its speed, and 100000,");
        Due.is("an offset below 0", unit.sensor(0, 0), 99999);
        unit.tick(-3, -400, 90, false);
        Due.is("a speed below 0", unit.sensor(1, 1), 99599);
        document.sentence("2 whether it has a vote (1 or 0),");
        Due.is("it has", unit.sensor(0, 2), 1);
        Due.is("it has none", unit.sensor(2, 2), 0);
        unit.test(2);
        Due.is("it has one again", unit.sensor(2, 2), 1);
    }

    private static void sameFor(Document document) {
        document.sentence("3 for how many ticks its reading is the same (0 ahead of its first tick, or behind a test),");
        VotedCharge unit = new VotedCharge();
        Due.is("ahead of the first tick", unit.sensor(1, 3), 0);
        for (int i = 1; i <= 60; i++) {
            unit.tick(0, 7, i % 2, true);
            Due.is("the same from the first tick on", unit.sensor(0, 3), i);
            Due.is("also if it is stuck", unit.sensor(1, 3), i);
            Due.is("another one each time", unit.sensor(2, 3), 1);
        }
        unit.test(1);
        Due.is("behind a test", unit.sensor(1, 3), 0);
        Due.is("the others go on", unit.sensor(0, 3), 60);
        unit.tick(0, 7, 1, true);
        Due.is("one tick behind a test", unit.sensor(1, 3), 1);
        unit.tick(1, 7, 1, true);
        Due.is("two ticks", unit.sensor(1, 3), 2);
        Due.is("another reading", unit.sensor(0, 3), 1);
        unit.undo();
        Due.is("undone", unit.sensor(0, 3), 61);
    }

    private static void latestReading(Document document) {
        document.sentence("4 its latest reading, and 100000 (NONE ahead of the first tick)");
        VotedCharge unit = new VotedCharge();
        Due.is("ahead of the first tick", unit.sensor(2, 4), -6);
        unit.test(2);
        Due.is("behind a test it is still ahead of the first tick", unit.sensor(2, 4), -6);
        unit.service();
        Due.is("behind a service, too", unit.sensor(2, 4), -6);
        unit.tick(0, 500, -500, false);
        Due.is("0", unit.sensor(0, 4), 100000);
        Due.is("500", unit.sensor(1, 4), 100500);
        Due.is("-500", unit.sensor(2, 4), 99500);
        unit.test(2);
        Due.is("a test is not ahead of the first tick", unit.sensor(2, 4), 99500);
        unit.tick(0, 0, 3, false);
        Due.is("the latest", unit.sensor(2, 4), 100003);
        document.sentence("Returns the number;");
        Due.is("the number", unit.sensor(2, 3), 1);
    }

    private static void sensorErrors(Document document) {
        document.sentence("NO_SUCH if there is no such sensor;");
        VotedCharge unit = new VotedCharge();
        for (int sensor : FAR_OUTSIDE) {
            Due.is("sensor", unit.sensor(sensor, 0), -1);
        }
        Due.is("3", unit.sensor(3, 0), -1);
        Due.is("2", unit.sensor(2, 0), 100000);
        document.sentence("BAD_VALUE if what is out of range.");
        for (int what : FAR_OUTSIDE) {
            Due.is("what", unit.sensor(0, what), -2);
        }
        Due.is("what is 5", unit.sensor(2, 5), -2);
        Due.is("what is 4", unit.sensor(2, 4), -6);
    }

    private static void stage(Document document) {
        document.sentence("Returns something about a stage.");
        VotedCharge unit = new VotedCharge();
        unit.set(VotedCharge.DELAY, 1);
        Due.is("not barred", unit.stage(2, 1), 0);
        document.sentence("- `what`: 0 the tick in which it fired (NONE),");
        for (int stage = 0; stage < 3; stage++) {
            Due.is("none yet", unit.stage(stage, 0), -6);
            Calls.tickAll(unit, 160 + stage, true);
            Due.is("the tick", unit.stage(stage, 0), stage);
        }
        unit.service();
        Due.is("none again", unit.stage(0, 0), -6);
        document.sentence("1 whether it is barred (1 or 0)");
        for (int stage = 0; stage < 3; stage++) {
            unit.bar(stage, true);
            Due.is("barred", unit.stage(stage, 1), 1);
            unit.bar(stage, false);
            Due.is("not barred", unit.stage(stage, 1), 0);
        }
        document.sentence("Returns the number;");
        Due.is("the number", unit.stage(0, 1), 0);
    }

    private static void stageErrors(Document document) {
        document.sentence("NO_SUCH if there is no such stage;");
        VotedCharge unit = new VotedCharge();
        for (int stage : FAR_OUTSIDE) {
            Due.is("stage", unit.stage(stage, 1), -1);
        }
        Due.is("3", unit.stage(3, 1), -1);
        document.sentence("BAD_VALUE if what is neither 0 nor 1.");
        for (int what : FAR_OUTSIDE) {
            Due.is("what", unit.stage(0, what), -2);
        }
        Due.is("what is 2", unit.stage(2, 2), -2);
        Due.is("what is 1", unit.stage(2, 1), 0);
        Due.is("what is 0", unit.stage(2, 0), -6);
    }

    private static void record(Document document) {
        document.sentence("Returns something about a tick of the recorder, in their order.");
        VotedCharge unit = new VotedCharge();
        for (int i = 0; i < 13; i++) {
            unit.tick(-i, i, 3 * i, i % 2 == 1);
        }
        for (int place = 0; place < 12; place++) {
            Due.is("in their order", unit.record(place, 0), place + 1);
        }
        document.sentence("- `place`: 0 for the first one");
        Due.is("the first of those that are left", unit.record(0, 0), 1);
        Due.is("the last one", unit.record(11, 0), 12);
        document.sentence("- `what`: 0 the tick, 1 to 3 the readings of the sensors, and 100000, 4 whether the switch was "
            + "closed (1 or 0),");
        for (int place = 0; place < 12; place++) {
            int tick = place + 1;
            int[] due = {tick, 100000 - tick, 100000 + tick, 100000 + 3 * tick, tick % 2};
            for (int what = 0; what < due.length; what++) {
                Due.is("record(" + place + ", " + what + ")", unit.record(place, what), due[what]);
            }
        }
        unit = new VotedCharge();
        unit.tick(-500, 0, 500, true);
        int[] due = {0, 99500, 100000, 100500, 1};
        for (int what = 0; what < due.length; what++) {
            Due.is("the least and the greatest: " + what, unit.record(0, what), due[what]);
        }
    }

    private static void recordVotes(Document document) {
        document.sentence("5 the middle, and 100000, 6 the low votes, 7 the high votes, as sets, 8 whether it was armed, 9 "
            + "the stages that fired, as a set");
        VotedCharge unit = new VotedCharge();
        unit.set(VotedCharge.FAR, 500);
        unit.set(VotedCharge.DELAY, 0);
        unit.set(VotedCharge.HOLD, 2);
        unit.tick(-500, -400, 60, false);
        unit.tick(490, 500, 500, true);
        unit.tick(90, 200, 300, false);
        unit.tick(90, 200, 300, false);
        int[][] due = {{99600, 4, 0, 0, 0}, {100500, 6, 6, 1, 7}, {100200, 7, 6, 1, 0}, {100200, 7, 7, 0, 0}};
        for (int place = 0; place < due.length; place++) {
            for (int i = 0; i < 5; i++) {
                Due.is("record(" + place + ", " + (5 + i) + ")", unit.record(place, 5 + i), due[place][i]);
            }
        }
        unit.set(VotedCharge.LOW, 2000);
        unit.service();
        unit.undo();
        unit.test(0);
        Due.is("what is recorded stays", unit.record(3, 6), 7);
    }

    private static void recordErrors(Document document) {
        document.sentence("Returns the number;");
        VotedCharge unit = new VotedCharge();
        unit.tick(0, 0, 0, false);
        Due.is("the number", unit.record(0, 9), 0);
        document.sentence("NO_SUCH if there is no such tick;");
        unit = new VotedCharge();
        for (int size = 0; size <= 14; size++) {
            Due.is("one behind the last", unit.record(Math.min(size, 12), 0), -1);
            Due.is("the last", unit.record(Math.min(size, 12) - 1, 0), size - 1);
            for (int place : FAR_OUTSIDE) {
                Due.is("no place", unit.record(place, 0), -1);
            }
            Calls.tickAll(unit, size % 2, false);
        }
        document.sentence("BAD_VALUE if what is out of range.");
        for (int what : FAR_OUTSIDE) {
            Due.is("what", unit.record(0, what), -2);
            Due.is("what, of the last one", unit.record(11, what), -2);
        }
        Due.is("what is 10", unit.record(0, 10), -2);
        Due.is("what is 10, of the last one", unit.record(11, 10), -2);
        Due.is("what is 9", unit.record(11, 9), 0);
    }

    private static void count(Document document) {
        document.sentence("Returns a number.");
        VotedCharge unit = new VotedCharge();
        int[] due = {0, 0, 7, 0, 0, 0, -6, 1, 60, 150, 5, 8, 40, 2, 0, 0};
        for (int what = 0; what < due.length; what++) {
            Due.is("count(" + what + ") of a new unit", unit.count(what), due[what]);
        }
        document.sentence("- `what`: 0 ticks that have passed, 1 what is left of the arming,");
        Calls.tickAll(unit, 0, true);
        Due.is("one tick", unit.count(0), 1);
        Due.is("five are left", unit.count(1), 5);
        document.sentence("2 the sensors that have a vote, 3 the stages that are fired, 4 the stages that are barred, as "
            + "sets,");
        for (int set = 0; set < 8; set++) {
            Due.is("votes", Calls.withVotes(set).count(2), set);
            unit = new VotedCharge();
            unit.set(VotedCharge.DELAY, 0);
            for (int stage = 0; stage < 3; stage++) {
                if ((set >> stage & 1) == 1) {
                    unit.bar(stage, true);
                }
            }
            Calls.tickAll(unit, 200, true);
            Due.is("barred", unit.count(4), set);
            int[] fired = {7, 6, 1, 0, 3, 2, 1, 0};
            Due.is("fired", unit.count(3), fired[set]);
        }
    }

    private static void countRecorder(Document document) {
        document.sentence("5 the ticks in the recorder, 6 the tick of the event (NONE), 7 whether the recorder takes ticks "
            + "(1 or 0),");
        VotedCharge unit = new VotedCharge();
        for (int tick = 0; tick < 22; tick++) {
            Due.is("ticks in it", unit.count(5), Math.min(12, tick));
            Due.is("event", unit.count(6), tick > 10 ? 10 : -6);
            Due.is("takes", unit.count(7), tick <= 16 ? 1 : 0);
            Calls.tickAll(unit, tick < 10 ? tick % 2 : 90 + tick, true);
        }
        unit.service();
        Due.is("empty", unit.count(5), 0);
        Due.is("no event", unit.count(6), -6);
        Due.is("takes", unit.count(7), 1);
        unit.undo();
        Due.is("undone: ticks in it", unit.count(5), 12);
        Due.is("undone: event", unit.count(6), 10);
        Due.is("undone: takes none", unit.count(7), 0);
    }

    private static void countRest(Document document) {
        document.sentence("8 to 13 the settings, 14 the length of the pad, 15 how many changes can be undone");
        VotedCharge unit = new VotedCharge();
        for (int setting = 0; setting < 6; setting++) {
            unit.set(setting, 20 - setting);
            Due.is("setting", unit.count(8 + setting), 20 - setting);
            Due.is("changes", unit.count(15), setting + 1);
        }
        unit.set(0, 1);
        Due.is("six at most", unit.count(15), 6);
        for (int length = 1; length <= 80; length++) {
            unit.put('1');
            Due.is("length", unit.count(14), length);
        }
        unit.put('1');
        Due.is("80 at most", unit.count(14), 80);
        document.sentence("Returns the number;");
        Due.is("the number", unit.count(8), 1);
        document.sentence("BAD_VALUE if what is out of range.");
        for (int what : FAR_OUTSIDE) {
            Due.is("what", unit.count(what), -2);
        }
        Due.is("what is 16", unit.count(16), -2);
        Due.is("what is 15", unit.count(15), 6);
    }
}
