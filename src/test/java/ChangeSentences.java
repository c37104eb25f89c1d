/** The sentences of the promises 1 to 6: a new object, set, tick, bar, test, service. */
final class ChangeSentences {
    private static final int[] OUTSIDE = {-1, 3, 4, 32, Integer.MIN_VALUE, Integer.MAX_VALUE};

    private ChangeSentences() {
    }

    static void check(Document document) {
        newObject(document);
        document.section("Promise 2");
        set(document);
        setErrors(document);
        document.section("Promise 3");
        tick(document);
        tickErrors(document);
        document.section("Promise 4");
        bar(document);
        barErrors(document);
        document.section("Promise 5");
        test(document);
        testErrors(document);
        document.section("Promise 6");
        service(document);
        serviced(document);
    }

    private static void newObject(Document document) {
        document.section("Promise 1");
        document.sentence("Creates a unit ahead of its first tick.");
        VotedCharge unit = new VotedCharge();
        Due.is("no tick", unit.count(0), 0);
        Due.is("no reading", unit.sensor(0, 4), -6);
        Due.is("the first tick", unit.tick(0, 0, 0, false), 0);
        Due.is("is the tick 0", unit.record(0, 0), 0);
        Due.is("nothing to undo but it", unit.undo(), 0);
        Due.same("that is as new", Calls.glance(unit), Calls.glance(new VotedCharge()));
        Due.is("nothing is saved", unit.restore(0), -5);
        Due.is("nor here", unit.restore(1), -5);
        Due.is("the pad is empty", unit.wipe(), 0);
    }

    private static void changes(Document document, VotedCharge unit, int before) {
        document.sentence("This is a change.");
        Due.is("one change more can be undone", unit.count(15), before + 1);
    }

    private static void set(Document document) {
        document.sentence("Changes a setting.");
        VotedCharge unit = new VotedCharge();
        for (int setting = 0; setting < 6; setting++) {
            unit.set(setting, 10 + setting);
            for (int other = 0; other < 6; other++) {
                int first = new int[] {60, 150, 5, 8, 40, 2}[other];
                Due.is("the setting " + other, unit.count(8 + other), other <= setting ? 10 + other : first);
            }
        }
        unit = new VotedCharge();
        unit.set(0, 60);
        changes(document, unit, 0);
        document.sentence("Returns the previous value;");
        Due.is("the same", unit.set(0, 60), 60);
        Due.is("another", unit.set(0, 1), 60);
        Due.is("the greatest", unit.set(0, 2000), 1);
        unit.undo();
        Due.is("behind undo", unit.set(0, 7), 1);
    }

    private static void setErrors(Document document) {
        document.sentence("BAD_VALUE if there is no such setting, or the value is out of its range.");
        int[] least = {1, 1, 1, 2, 1, 0};
        int[] most = {2000, 2000, 50, 50, 500, 20};
        VotedCharge unit = new VotedCharge();
        for (int setting : new int[] {-1, 6, 7, 8, 13, Integer.MIN_VALUE, Integer.MAX_VALUE}) {
            for (int value : new int[] {0, 1, 20, 2000, -1}) {
                Due.is("no setting", unit.set(setting, value), -2);
            }
        }
        for (int setting = 0; setting < 6; setting++) {
            Due.is("one below", unit.set(setting, least[setting] - 1), -2);
            Due.is("one above", unit.set(setting, most[setting] + 1), -2);
            Due.is("far below", unit.set(setting, Integer.MIN_VALUE), -2);
            Due.is("far above", unit.set(setting, Integer.MAX_VALUE), -2);
            Due.is("the least one", unit.set(setting, least[setting]) >= 0 ? 1 : 0, 1);
            Due.is("the greatest one", unit.set(setting, most[setting]), least[setting]);
        }
    }

    private static void tick(Document document) {
        document.sentence("Lets a tick pass.");
        VotedCharge unit = new VotedCharge();
        for (int i = 1; i <= 20; i++) {
            unit.tick(0, 0, 0, false);
            Due.is("ticks", unit.count(0), i);
        }
        unit = new VotedCharge();
        unit.tick(0, 0, 0, false);
        changes(document, unit, 0);
        document.sentence("- `zero`: , one, two the readings of the sensors, -500 to 500");
        Due.is("the least", unit.tick(-500, -500, -500, true), 0);
        Due.is("the greatest", unit.tick(500, 499, 498, true), 1);
        Due.is("reading of 0", unit.sensor(0, 4), 100500);
        Due.is("reading of 1", unit.sensor(1, 4), 100499);
        Due.is("reading of 2", unit.sensor(2, 4), 100498);
        document.sentence("Returns the stages that fire in it, as a set;");
        unit = new VotedCharge();
        unit.bar(0, true);
        Due.is("none", unit.tick(0, 0, 0, true), 0);
        Due.is("the stage 1", unit.tick(160, 160, 160, true), 2);
        Due.is("not those that fired ahead of it", unit.tick(161, 161, 161, true), 0);
        unit.bar(0, false);
        Due.is("the stages 0 and 2", unit.tick(160, 160, 160, true), 5);
    }

    private static void tickErrors(Document document) {
        document.sentence("BAD_VALUE if a reading is out of range;");
        VotedCharge unit = new VotedCharge();
        for (int reading : new int[] {-501, 501, Integer.MIN_VALUE, Integer.MAX_VALUE}) {
            Due.is("0", unit.tick(reading, 500, -500, true), -2);
            Due.is("1", unit.tick(500, reading, -500, false), -2);
            Due.is("2", unit.tick(500, -500, reading, true), -2);
            Due.is("all", unit.tick(reading, reading, reading, true), -2);
        }
        document.sentence("TOO_MANY if 100000 ticks have passed.");
        unit = Calls.behindTicks(99999);
        Due.is("behind 99999", unit.tick(0, 0, 0, false), 0);
        Due.is("100000 have passed", unit.count(0), 100000);
        String due = Calls.glance(unit);
        Due.is("behind 100000", unit.tick(0, 0, 0, false), -4);
        Due.same("nothing changes", Calls.glance(unit), due);
        unit.undo();
        Due.is("behind 99999 again", unit.tick(0, 0, 0, false), 0);
    }

    private static void bar(Document document) {
        document.sentence("Bars a stage, or lets it go.");
        for (int stage = 0; stage < 3; stage++) {
            VotedCharge unit = new VotedCharge();
            unit.bar(stage, true);
            for (int other = 0; other < 3; other++) {
                Due.is("barred", unit.stage(other, 1), other == stage ? 1 : 0);
            }
            unit.bar(stage, false);
            Due.is("let go", unit.stage(stage, 1), 0);
        }
        VotedCharge unit = new VotedCharge();
        unit.bar(2, true);
        changes(document, unit, 0);
        document.sentence("Returns the stages that are barred then, as a set;");
        Due.is("0 and 2", unit.bar(0, true), 5);
        Due.is("all", unit.bar(1, true), 7);
        Due.is("0 and 1", unit.bar(2, false), 3);
        Due.is("0", unit.bar(1, false), 1);
        Due.is("none", unit.bar(0, false), 0);
    }

    private static void barErrors(Document document) {
        document.sentence("NO_SUCH if there is no such stage;");
        VotedCharge unit = new VotedCharge();
        for (int stage : OUTSIDE) {
            Due.is("bar", unit.bar(stage, true), -1);
            Due.is("let go", unit.bar(stage, false), -1);
        }
        document.sentence("NOT_POSSIBLE if it is so already, or the stage is fired.");
        for (int stage = 0; stage < 3; stage++) {
            unit = new VotedCharge();
            unit.set(VotedCharge.DELAY, 0);
            Due.is("not barred", unit.bar(stage, false), -5);
            unit.bar(stage, true);
            Due.is("barred", unit.bar(stage, true), -5);
            unit.bar(stage, false);
            Calls.tickAll(unit, 300, true);
            Due.is("bar what is fired", unit.bar(stage, true), -5);
            Due.is("let go what is fired", unit.bar(stage, false), -5);
            unit.service();
            Due.is("behind a service", unit.bar(stage, true), 1 << stage);
        }
        unit = new VotedCharge();
        Calls.tickAll(unit, 60, true);
        Due.is("the stage 0 is fired, and 1 is not", unit.bar(1, true), 2);
        Due.is("nor is 2", unit.bar(2, true), 6);
    }

    private static void test(Document document) {
        document.sentence("Tests a sensor: it has a vote, its offset and its speed are 0, and it counts anew how long its "
            + "reading is the same.");
        for (int sensor = 0; sensor < 3; sensor++) {
            VotedCharge unit = new VotedCharge();
            unit.set(VotedCharge.STUCK, 3);
            Calls.tickAll(unit, 3, false);
            Calls.tickAll(unit, 30, true);
            Calls.tickAll(unit, 30, false);
            unit.set(VotedCharge.LOW, 2000);
            Calls.tickAll(unit, 30, false);
            Due.is("all are stuck", unit.count(2), 0);
            Due.is("an offset", unit.sensor(sensor, 0), 100001);
            Due.is("a speed", unit.sensor(sensor, 1) > 100060 ? 1 : 0, 1);
            int speed = unit.sensor((sensor + 1) % 3, 1);
            unit.test(sensor);
            Due.is("a vote", unit.count(2), 1 << sensor);
            Due.is("no offset", unit.sensor(sensor, 0), 100000);
            Due.is("no speed", unit.sensor(sensor, 1), 100000);
            Due.is("counted anew", unit.sensor(sensor, 3), 0);
            Due.is("another one's offset", unit.sensor((sensor + 1) % 3, 0), 100001);
            Due.is("another one's speed", unit.sensor((sensor + 1) % 3, 1), speed);
            Due.is("another one's counting", unit.sensor((sensor + 1) % 3, 3), 3);
            for (int i = 1; i <= 3; i++) {
                Calls.tickAll(unit, 30, false);
                Due.is("counted", unit.sensor(sensor, 3), i);
                Due.is("a vote until it is stuck again", unit.sensor(sensor, 2), i < 3 ? 1 : 0);
            }
        }
        VotedCharge unit = new VotedCharge();
        unit.test(0);
        changes(document, unit, 0);
    }

    private static void testErrors(Document document) {
        document.sentence("Returns 1 if it had lost its vote, otherwise 0;");
        for (int votes = 0; votes < 8; votes++) {
            VotedCharge unit = Calls.withVotes(votes);
            for (int sensor = 0; sensor < 3; sensor++) {
                Due.is("votes " + votes + ", sensor " + sensor, unit.test(sensor), 1 - (votes >> sensor & 1));
                Due.is("again", unit.test(sensor), 0);
            }
            Due.is("all have a vote", unit.count(2), 7);
        }
        document.sentence("NO_SUCH if there is no such sensor;");
        VotedCharge unit = new VotedCharge();
        for (int sensor : OUTSIDE) {
            Due.is("test", unit.test(sensor), -1);
        }
        document.sentence("NOT_POSSIBLE if a stage is fired.");
        Calls.tickAll(unit, 60, true);
        for (int sensor = 0; sensor < 3; sensor++) {
            Due.is("the stage 0 is fired", unit.test(sensor), -5);
        }
        unit.service();
        Due.is("none is", unit.test(0), 0);
        unit.bar(0, true);
        Calls.tickAll(unit, 120, true);
        Due.is("the stage 1 alone is fired", unit.count(3), 2);
        Due.is("that is a stage, too", unit.test(1), -5);
        unit.undo();
        Due.is("undone", unit.test(1), 0);
    }

    /** Two stages are fired, a third is barred, and one sensor has lost its vote. */
    private static VotedCharge fired() {
        VotedCharge unit = new VotedCharge();
        unit.tick(3, 3, 3, false);
        unit.bar(2, true);
        unit.tick(100, 101, -1, true);
        unit.tick(100, 101, -1, true);
        unit.tick(100, 101, -1, true);
        return unit;
    }

    private static void service(Document document) {
        document.sentence("Services the unit: no stage is fired, the recorder is empty and takes ticks, the unit is not "
            + "armed, all speeds are 0");
        VotedCharge unit = fired();
        for (int i = 0; i < 5; i++) {
            unit.tick(i, i, i, true);
        }
        Due.is("two are fired", unit.count(3), 3);
        Due.is("the recorder takes no ticks", unit.count(7), 0);
        unit.service();
        for (int i = 0; i < 3; i++) {
            Due.is("not fired", unit.stage(i, 0), -6);
            Due.is("no speed", unit.sensor(i, 1), 100000);
        }
        Due.is("none is fired", unit.count(3), 0);
        Due.is("the recorder is empty", unit.count(5), 0);
        Due.is("it has no tick", unit.record(0, 0), -1);
        Due.is("it takes ticks", unit.count(7), 1);
        Due.is("no event", unit.count(6), -6);
        Due.is("nothing is left of the arming", unit.count(1), 0);
        Due.is("not armed", unit.ifTick(400, 400, 400, false, 0), 0);
        Due.is("armed again: it fires again", unit.ifTick(400, 400, 400, true, 0), 1);
    }

    private static void serviced(Document document) {
        document.sentence("(bars, offsets and votes stay).");
        VotedCharge unit = fired();
        unit.service();
        Due.is("bars", unit.count(4), 4);
        Due.is("votes", unit.count(2), 3);
        for (int sensor = 0; sensor < 3; sensor++) {
            Due.is("offset", unit.sensor(sensor, 0), 100001);
            Due.is("the counting stays, too", unit.sensor(sensor, 3), 3);
        }
        Due.is("ticks", unit.count(0), 4);
        unit = new VotedCharge();
        unit.service();
        changes(document, unit, 0);
        document.sentence("Returns how many stages were fired.");
        Due.is("none", unit.service(), 0);
        unit.set(VotedCharge.DELAY, 0);
        Calls.tickAll(unit, 160, true);
        Due.is("three", unit.service(), 3);
        Due.is("none again", unit.service(), 0);
        Calls.tickAll(unit, 60, true);
        Due.is("two", unit.service(), 2);
        unit.bar(0, true);
        unit.set(VotedCharge.HIGH, 2000);
        Calls.tickAll(unit, 61, true);
        Due.is("one", unit.service(), 1);
    }
}
