/** Promises 1 to 6: a new object, set, tick, bar, test, service (the steps of a tick are in TickTest). */
public final class ChangesTest {
    private static final int[] LEAST = {1, 1, 1, 2, 1, 0};
    private static final int[] MOST = {2000, 2000, 50, 50, 500, 20};
    private static final int[] FIRST = {60, 150, 5, 8, 40, 2};

    public static void main(String[] args) {
        newObject();
        twoObjectsShareNothing();
        set();
        setTellsForLaterTicks();
        tick();
        tickLimit();
        bar();
        barsHoldStages();
        test();
        testCountsAnew();
        service();
        errorsChangeNothing();
        Due.end();
    }

    private static void newObject() {
        VotedCharge unit = new VotedCharge();
        for (int sensor = 0; sensor < 3; sensor++) {
            Due.is("new: offset", unit.sensor(sensor, 0), 100000);
            Due.is("new: speed", unit.sensor(sensor, 1), 100000);
            Due.is("new: vote", unit.sensor(sensor, 2), 1);
            Due.is("new: same for", unit.sensor(sensor, 3), 0);
            Due.is("new: latest reading", unit.sensor(sensor, 4), -6);
        }
        for (int stage = 0; stage < 3; stage++) {
            Due.is("new: fired in", unit.stage(stage, 0), -6);
            Due.is("new: barred", unit.stage(stage, 1), 0);
        }
        int[] counts = {0, 0, 7, 0, 0, 0, -6, 1, 60, 150, 5, 8, 40, 2, 0, 0};
        for (int what = 0; what < counts.length; what++) {
            Due.is("new: count(" + what + ")", unit.count(what), counts[what]);
        }
        Due.is("new: record", unit.record(0, 0), -1);
        Due.is("new: undo", unit.undo(), -5);
        Due.is("new: restore(0)", unit.restore(0), -5);
        Due.is("new: restore(1)", unit.restore(1), -5);
        Due.is("new: fault", unit.fault(), 0);
    }

    private static void twoObjectsShareNothing() {
        VotedCharge one = new VotedCharge();
        VotedCharge two = new VotedCharge();
        one.set(VotedCharge.LOW, 7);
        Calls.tickAll(one, 500, true);
        one.put('1');
        one.save(0);
        Due.is("other object: setting", two.count(8), 60);
        Due.is("other object: ticks", two.count(0), 0);
        Due.is("other object: pad", two.count(14), 0);
        Due.is("other object: slot", two.restore(0), -5);
        Due.is("third object: setting", new VotedCharge().count(8), 60);
    }

    private static void set() {
        VotedCharge unit = new VotedCharge();
        for (int setting = 0; setting < 6; setting++) {
            Due.is("set below its range", unit.set(setting, LEAST[setting] - 1), -2);
            Due.is("set above its range", unit.set(setting, MOST[setting] + 1), -2);
            Due.is("set far below", unit.set(setting, Integer.MIN_VALUE), -2);
            Due.is("set far above", unit.set(setting, Integer.MAX_VALUE), -2);
            Due.is("set to its least", unit.set(setting, LEAST[setting]), FIRST[setting]);
            Due.is("count of its least", unit.count(8 + setting), LEAST[setting]);
            Due.is("set to its most", unit.set(setting, MOST[setting]), LEAST[setting]);
            Due.is("count of its most", unit.count(8 + setting), MOST[setting]);
            Due.is("set to the same", unit.set(setting, MOST[setting]), MOST[setting]);
        }
        Due.is("set(-1)", unit.set(-1, 5), -2);
        Due.is("set(6)", unit.set(6, 5), -2);
        Due.is("set(least)", unit.set(Integer.MIN_VALUE, 5), -2);
        Due.is("set(most)", unit.set(Integer.MAX_VALUE, 5), -2);
        for (int setting = 0; setting < 6; setting++) {
            Due.is("the others stay", unit.count(8 + setting), MOST[setting]);
        }
    }

    private static void setTellsForLaterTicks() {
        VotedCharge unit = new VotedCharge();
        unit.tick(20, 20, 20, true);
        Due.is("armed for 5", unit.count(1), 5);
        unit.set(VotedCharge.HOLD, 1);
        Due.is("what is left stays", unit.count(1), 5);
        unit.tick(21, 21, 21, false);
        Due.is("one less", unit.count(1), 4);
        unit.tick(5, 5, 5, true);
        Due.is("the new hold", unit.count(1), 1);
    }

    private static void tick() {
        VotedCharge unit = new VotedCharge();
        int[] wrong = {-501, 501, Integer.MIN_VALUE, Integer.MAX_VALUE};
        for (int reading : wrong) {
            Due.is("tick with a wrong reading 0", unit.tick(reading, 0, 0, false), -2);
            Due.is("tick with a wrong reading 1", unit.tick(0, reading, 0, false), -2);
            Due.is("tick with a wrong reading 2", unit.tick(0, 0, reading, true), -2);
        }
        Due.is("no tick has passed", unit.count(0), 0);
        Due.is("nothing to undo", unit.count(15), 0);
        Due.is("tick with the least", unit.tick(-500, -500, -500, true), 0);
        Due.is("tick with the most", unit.tick(500, 500, 500, false), 1);
        Due.is("two ticks", unit.count(0), 2);
    }

    /** Far behind the 512 calls that the document speaks of: only here the limit of ticks can be met. */
    private static void tickLimit() {
        VotedCharge unit = new VotedCharge();
        for (int i = 0; i < 99999; i++) {
            unit.tick(i & 1, 0, 0, false);
        }
        Calls.putAll(unit, "0,0,0;1,1,1");
        Due.is("run above the limit", unit.run(), -4);
        Due.is("the pad stays", unit.count(14), 11);
        Due.is("no tick has passed", unit.count(0), 99999);
        unit.wipe();
        Calls.putAll(unit, "1,1,1");
        Due.is("run to the limit", unit.run(), 0);
        Due.is("the limit", unit.count(0), 100000);
        Due.is("tick above the limit", unit.tick(0, 0, 0, false), -4);
        Due.is("a wrong reading is told first", unit.tick(0, 0, 501, false), -2);
        Due.is("the limit stays", unit.count(0), 100000);
    }

    private static void bar() {
        VotedCharge unit = new VotedCharge();
        Due.is("bar(-1)", unit.bar(-1, true), -1);
        Due.is("bar(3)", unit.bar(3, false), -1);
        Due.is("bar(most)", unit.bar(Integer.MAX_VALUE, true), -1);
        Due.is("bar(least)", unit.bar(Integer.MIN_VALUE, true), -1);
        Due.is("bar(32) is no bar(0)", unit.bar(32, true), -1);
        Due.is("let go what is not barred", unit.bar(1, false), -5);
        Due.is("bar 1", unit.bar(1, true), 2);
        Due.is("bar 1 again", unit.bar(1, true), -5);
        Due.is("bar 2", unit.bar(2, true), 6);
        Due.is("bar 0", unit.bar(0, true), 7);
        Due.is("let 1 go", unit.bar(1, false), 5);
        Due.is("let 1 go again", unit.bar(1, false), -5);
        Due.is("only what was done can be undone", unit.count(15), 4);
        Due.is("let 0 go", unit.bar(0, false), 4);
        Calls.tickAll(unit, 100, true);
        Due.is("0 is fired", unit.count(3), 1);
        Due.is("bar what is fired", unit.bar(0, true), -5);
        Due.is("let go what is fired", unit.bar(0, false), -5);
        Due.is("let 2 go", unit.bar(2, false), 0);
    }

    private static void barsHoldStages() {
        VotedCharge unit = new VotedCharge();
        unit.set(VotedCharge.DELAY, 0);
        unit.bar(1, true);
        Due.is("1 is barred: 2 stays, too", Calls.tickAll(unit, 500, true), 1);
        Due.is("still", Calls.tickAll(unit, 499, true), 0);
        unit.bar(1, false);
        Due.is("both behind it", Calls.tickAll(unit, 500, true), 6);
        unit = new VotedCharge();
        unit.set(VotedCharge.DELAY, 20);
        unit.bar(0, true);
        unit.bar(2, true);
        Due.is("0 is barred: 1 needs no delay", Calls.tickAll(unit, 70, true), 2);
        Due.is("it fires once", Calls.tickAll(unit, 71, true), 0);
        unit = new VotedCharge();
        unit.bar(0, true);
        Due.is("0 is barred, but there are no votes", Calls.tickAll(unit, 50, true), 0);
        Due.is("0 is barred, and it is armed yet", unit.ifTick(500, 500, 500, false, 0), 2);
        unit = new VotedCharge();
        unit.bar(0, true);
        Due.is("0 is barred, and it was never armed", Calls.tickAll(unit, 500, false), 0);
    }

    private static void test() {
        VotedCharge unit = new VotedCharge();
        Due.is("test(-1)", unit.test(-1), -1);
        Due.is("test(3)", unit.test(3), -1);
        Due.is("test(most)", unit.test(Integer.MAX_VALUE), -1);
        Due.is("test(least)", unit.test(Integer.MIN_VALUE), -1);
        Due.is("test of a sensor with a vote", unit.test(1), 0);
        unit.set(VotedCharge.STUCK, 3);
        unit.tick(1, 3, 2, false);
        unit.tick(0, 3, 1, false);
        unit.tick(20, 3, 20, false);
        Due.is("1 is stuck", unit.count(2), 5);
        unit.tick(20, 3, 20, true);
        unit.tick(20, 3, 20, true);
        Due.is("all are stuck", unit.count(2), 0);
        Due.is("offset of 0 ahead of the test", unit.sensor(0, 0), 100000);
        Due.is("offset of 2 ahead of the test", unit.sensor(2, 0), 100001);
        Due.is("test of 2", unit.test(2), 1);
        Due.is("it has a vote", unit.count(2), 4);
        Due.is("its offset", unit.sensor(2, 0), 100000);
        Due.is("its speed", unit.sensor(2, 1), 100000);
        Due.is("same for", unit.sensor(2, 3), 0);
        Due.is("its latest reading stays", unit.sensor(2, 4), 100020);
        Due.is("the others keep their speed", unit.sensor(0, 1), 100052);
        Due.is("the others keep their counting", unit.sensor(0, 3), 3);
        Due.is("test of 2 again", unit.test(2), 0);
        Due.is("test of 0", unit.test(0), 1);
        unit.test(1);
        Due.is("a tick fires", Calls.tickAll(unit, 90, true), 1);
        Due.is("test of a fired unit", unit.test(0), -5);
        Due.is("no such sensor is told first", unit.test(3), -1);
        unit.service();
        Due.is("test of a serviced unit", unit.test(0), 0);
    }

    private static void testCountsAnew() {
        VotedCharge unit = new VotedCharge();
        unit.set(VotedCharge.STUCK, 2);
        unit.tick(9, 8, 7, false);
        unit.test(0);
        unit.tick(9, 9, 9, false);
        Due.is("the tick ahead of the test does not count", unit.sensor(0, 3), 1);
        Due.is("it keeps its vote", unit.sensor(0, 2), 1);
        unit.tick(9, 8, 7, false);
        Due.is("two ticks behind the test count", unit.sensor(0, 3), 2);
        Due.is("it loses its vote", unit.sensor(0, 2), 0);
    }

    private static void service() {
        VotedCharge unit = new VotedCharge();
        Due.is("service of a new unit", unit.service(), 0);
        Due.is("it is a change", unit.count(15), 1);
        unit.tick(3, 3, 3, false);
        unit.bar(2, true);
        unit.tick(120, 121, 0, true);
        Due.is("2 is far", unit.count(2), 3);
        unit.tick(120, 121, 0, true);
        unit.tick(120, 121, 0, false);
        Due.is("two are fired", unit.count(3), 3);
        Due.is("armed", unit.count(1), 4);
        Due.is("service", unit.service(), 2);
        Due.is("none is fired", unit.count(3), 0);
        Due.is("stage 0", unit.stage(0, 0), -6);
        Due.is("stage 1", unit.stage(1, 0), -6);
        Due.is("the recorder is empty", unit.count(5), 0);
        Due.is("no event", unit.count(6), -6);
        Due.is("it takes ticks", unit.count(7), 1);
        Due.is("not armed", unit.count(1), 0);
        for (int sensor = 0; sensor < 3; sensor++) {
            Due.is("speed", unit.sensor(sensor, 1), 100000);
            Due.is("offset stays", unit.sensor(sensor, 0), 100001);
            Due.is("counting stays", unit.sensor(sensor, 3), 3);
        }
        Due.is("votes stay", unit.count(2), 3);
        Due.is("bars stay", unit.count(4), 4);
        Due.is("ticks stay", unit.count(0), 4);
        Due.is("latest reading stays", unit.sensor(1, 4), 100121);
        Due.is("not armed: nothing fires", unit.tick(500, 500, 0, false), 0);
        Due.is("armed: it fires again", unit.tick(499, 499, 0, true), 1);
        Due.is("in the tick 5", unit.stage(0, 0), 5);
        Due.is("the event", unit.count(6), 5);
        Due.is("recorded from the tick 4", unit.record(0, 0), 4);
    }

    private static void errorsChangeNothing() {
        VotedCharge unit = new VotedCharge();
        Calls.tickAll(unit, 100, true);
        unit.put('7');
        unit.save(1);
        String before = Calls.look(unit) + unit.count(14) + unit.count(15);
        unit.set(9, 9);
        unit.set(0, 0);
        unit.tick(501, 0, 0, true);
        unit.bar(5, true);
        unit.bar(0, true);
        unit.test(4);
        unit.test(0);
        unit.put(0);
        unit.run();
        unit.save(2);
        unit.restore(0);
        unit.restore(-1);
        String behind = Calls.look(unit) + unit.count(14) + unit.count(15);
        Due.is("errors change nothing", before.equals(behind) ? 1 : 0, 1);
    }

    private ChangesTest() {
    }
}
