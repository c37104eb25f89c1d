/** Promises 11 to 13: ifTick, leastReading, ticksTo. */
public final class WhatIfTest {
    private static final int[] OUTSIDE = {-1, Integer.MIN_VALUE, Integer.MAX_VALUE};
    private static final int[] NO_READING = {-501, 501, Integer.MIN_VALUE, Integer.MAX_VALUE};

    public static void main(String[] args) {
        ifTick();
        ifTickIsWhatTickDoes();
        leastReading();
        leastReadingBetweenStuckOnes();
        leastReadingIsTheFirstOfAll();
        ticksTo();
        ticksToAtItsBound();
        ticksToFromBelow();
        nothingChanges();
        Due.end();
    }

    private static void ifTick() {
        VotedCharge unit = new VotedCharge();
        for (int reading : NO_READING) {
            Due.is("reading 0", unit.ifTick(reading, 0, 0, true, 0), -2);
            Due.is("reading 1", unit.ifTick(0, reading, 0, true, 0), -2);
            Due.is("reading 2", unit.ifTick(0, 0, reading, true, 0), -2);
        }
        for (int what : OUTSIDE) {
            Due.is("what is out of range", unit.ifTick(0, 0, 0, true, what), -2);
        }
        Due.is("what is 6", unit.ifTick(0, 0, 0, true, 6), -2);
        unit.set(VotedCharge.DELAY, 0);
        int[] due = {3, 100130, 6, 6, 4, 1};
        for (int what = 0; what < due.length; what++) {
            Due.is("ifTick(.., " + what + ")", unit.ifTick(50, 130, 160, true, what), due[what]);
        }
        int[] dueOpen = {0, 100130, 6, 6, 4, 0};
        for (int what = 0; what < dueOpen.length; what++) {
            Due.is("ifTick(.., " + what + "), open", unit.ifTick(50, 130, 160, false, what), dueOpen[what]);
        }
        Due.is("below 0", unit.ifTick(-500, -500, -500, true, 1), 99500);
        Due.is("no speed is kept from it", unit.ifTick(60, 60, 60, true, 4), 0);
    }

    private static void ifTickIsWhatTickDoes() {
        VotedCharge unit = new VotedCharge();
        int[][] ticks = {{1, 2, -3, 0}, {1, 2, -3, 0}, {60, 61, 62, 1}, {60, 61, 20, 0}, {200, 210, 220, 0}, {9, 8, 7, 0},
            {200, 150, 100, 1}, {-300, 150, 100, 0}, {300, 150, 100, 0}};
        for (int[] tick : ticks) {
            int[] foreseen = new int[6];
            for (int what = 0; what < 6; what++) {
                foreseen[what] = unit.ifTick(tick[0], tick[1], tick[2], tick[3] == 1, what);
            }
            Due.is("stages", foreseen[0], unit.tick(tick[0], tick[1], tick[2], tick[3] == 1));
            int last = unit.count(5) - 1;
            Due.is("middle", foreseen[1], unit.record(last, 5));
            Due.is("votes", foreseen[2], unit.count(2));
            Due.is("low votes", foreseen[3], unit.record(last, 6));
            Due.is("high votes", foreseen[4], unit.record(last, 7));
            Due.is("armed", foreseen[5], unit.record(last, 8));
        }
    }

    private static void leastReading() {
        VotedCharge unit = new VotedCharge();
        for (int stage : OUTSIDE) {
            Due.is("no such stage", unit.leastReading(stage, true), -1);
        }
        Due.is("leastReading(3)", unit.leastReading(3, false), -1);
        Due.is("stage 0", unit.leastReading(0, true), 100060);
        Due.is("stage 0, open", unit.leastReading(0, false), -6);
        Due.is("stage 1 waits for 0", unit.leastReading(1, true), -6);
        unit.bar(0, true);
        Due.is("stage 0 is barred", unit.leastReading(0, true), -6);
        Due.is("stage 1 need not wait", unit.leastReading(1, true), 100060);
        unit.bar(0, false);
        unit.set(VotedCharge.DELAY, 0);
        Due.is("stage 2 at once", unit.leastReading(2, true), 100150);
        unit.set(VotedCharge.HIGH, 501);
        Due.is("stage 2 needs more than 500", unit.leastReading(2, true), -6);
        unit.set(VotedCharge.HIGH, 500);
        Due.is("stage 2 needs 500", unit.leastReading(2, true), 100500);
        Due.is("nothing has fired", unit.count(3), 0);
        Calls.tickAll(unit, 40, true);
        Due.is("35 are kept", unit.leastReading(0, true), 100025);
        Due.is("armed yet", unit.leastReading(0, false), 100025);
        unit.set(VotedCharge.LOW, 35);
        Due.is("-4 is not added", unit.leastReading(0, true), 99996);
        unit.set(VotedCharge.LOW, 36);
        Due.is("5 is the least that is added", unit.leastReading(0, true), 100005);
        unit.set(VotedCharge.LOW, 30);
        Due.is("-5 is added", unit.leastReading(0, true), 99995);
        Calls.tickAll(unit, 41, true);
        Due.is("it is fired", unit.leastReading(0, true), -6);
    }

    private static void leastReadingBetweenStuckOnes() {
        VotedCharge unit = new VotedCharge();
        unit.set(VotedCharge.STUCK, 2);
        Calls.tickAll(unit, 32, true);
        Due.is("the least one is that of the latest tick: stuck", unit.leastReading(0, true), 100033);
        unit = new VotedCharge();
        unit.set(VotedCharge.STUCK, 2);
        unit.tick(32, 32, 40, true);
        Due.is("two are stuck with it", unit.leastReading(0, true), 100033);
        unit = new VotedCharge();
        unit.set(VotedCharge.STUCK, 2);
        unit.tick(32, 33, 34, true);
        Due.is("one is stuck, two are enough", unit.leastReading(0, true), 100032);
    }

    private static void leastReadingIsTheFirstOfAll() {
        VotedCharge unit = new VotedCharge();
        unit.set(VotedCharge.LOW, 100);
        unit.set(VotedCharge.FAR, 500);
        for (int i = 0; i < 20; i++) {
            unit.tick(500 - i % 2, 499 - i % 2, 498 - i % 2, false);
        }
        Due.is("the speeds alone would fire it, at -500", unit.leastReading(0, true), 99500);
        Due.is("an open switch", unit.leastReading(0, false), -6);
        unit.tick(-500, -500, -500, false);
        Due.is("a reading of -500 behind -500", unit.leastReading(0, true), 99500);
    }

    private static void ticksTo() {
        VotedCharge unit = new VotedCharge();
        for (int stage : OUTSIDE) {
            Due.is("no such stage", unit.ticksTo(stage, 0), -1);
        }
        for (int reading : NO_READING) {
            Due.is("no reading", unit.ticksTo(0, reading), -2);
        }
        Due.is("no such stage is told first", unit.ticksTo(3, 501), -1);
        Due.is("at once", unit.ticksTo(0, 60), 1);
        Due.is("59, 110", unit.ticksTo(0, 59), 2);
        Due.is("2 behind that", unit.ticksTo(1, 60), 3);
        Due.is("4 behind that", unit.ticksTo(2, 100), 5);
        Due.is("never", unit.ticksTo(0, -500), -6);
        Due.is("stuck ahead of it", unit.ticksTo(0, 11), -6);
        Due.is("12, 22, 31, 39, 46, 52, 57, stuck", unit.ticksTo(0, 12), -6);
        Due.is("13, 24, 34, 42, 49, 55, 61", unit.ticksTo(0, 13), 7);
        unit.set(VotedCharge.STUCK, 9);
        Due.is("12, 22, 31, 39, 46, 52, 57, 61", unit.ticksTo(0, 12), 8);
        unit.bar(0, true);
        Due.is("0 is barred", unit.ticksTo(0, 100), -6);
        Due.is("1 is at once", unit.ticksTo(1, 100), 1);
        unit.bar(0, false);
        Calls.tickAll(unit, 100, true);
        Due.is("0 is fired", unit.ticksTo(0, -500), 0);
        Due.is("1 in two", unit.ticksTo(1, 100), 2);
        Calls.tickAll(unit, 100, false);
        Due.is("1 in one", unit.ticksTo(1, 101), 1);
        Due.is("a wrong reading of a fired stage", unit.ticksTo(0, 501), -2);
    }

    /** The bound is met ahead of 50 ticks: STUCK is 50 at most, and so in the tick 50 no sensor has a vote. */
    private static void ticksToAtItsBound() {
        VotedCharge unit = new VotedCharge();
        unit.set(VotedCharge.STUCK, 50);
        unit.set(VotedCharge.DELAY, 20);
        Due.is("behind 41 ticks", unit.ticksTo(2, 500), 41);
        unit.set(VotedCharge.HIGH, 1);
        unit.set(VotedCharge.LOW, 53);
        Due.is("10, 18, 25, 31, 37, 42, 46, 50, 53", unit.ticksTo(0, 10), 9);
        Due.is("20 behind that", unit.ticksTo(1, 10), 29);
        Due.is("20 behind that, too", unit.ticksTo(2, 10), 49);
        unit.set(VotedCharge.LOW, 54);
        Due.is("one later", unit.ticksTo(1, 10), 30);
        Due.is("stuck in the tick 50", unit.ticksTo(2, 10), -6);
        unit.set(VotedCharge.LOW, 53);
        unit.set(VotedCharge.STUCK, 49);
        Due.is("stuck in the tick 49", unit.ticksTo(2, 10), -6);
        unit.set(VotedCharge.STUCK, 50);
        Calls.tickAll(unit, 10, false);
        Due.is("one is behind it", unit.ticksTo(1, 10), 28);
        Due.is("one is behind it, and stuck in the same tick as ever", unit.ticksTo(2, 10), 48);
    }

    /** Sensors that have to forget a great speed below 0 first. */
    private static void ticksToFromBelow() {
        for (int first = -500; first <= 0; first++) {
            VotedCharge unit = new VotedCharge();
            unit.set(VotedCharge.STUCK, 50);
            unit.set(VotedCharge.DELAY, 20);
            unit.set(VotedCharge.LOW, 61);
            Calls.tickAll(unit, first, true);
            int due = risingTo(61, first < -4 ? first : 0, 10);
            Due.is("behind a tick of " + first, unit.ticksTo(0, 10), due);
            Due.is("the next stage, behind " + first, unit.ticksTo(1, 10), due + 20 < 50 ? due + 20 : -6);
        }
    }

    private static int risingTo(int low, int from, int reading) {
        int ticks = 0;
        for (int speed = from; speed < low; ticks++) {
            speed = speed * 7 / 8 + reading;
        }
        return ticks;
    }

    private static void nothingChanges() {
        VotedCharge unit = new VotedCharge();
        unit.set(VotedCharge.DELAY, 1);
        unit.tick(90, 91, 92, true);
        unit.put('3');
        String before = Calls.look(unit) + unit.count(14) + unit.count(15);
        for (int what = 0; what < 6; what++) {
            unit.ifTick(500, 500, 400, false, what);
        }
        for (int stage = 0; stage < 3; stage++) {
            unit.leastReading(stage, true);
            unit.leastReading(stage, false);
            unit.ticksTo(stage, 500);
            unit.ticksTo(stage, -500);
        }
        String behind = Calls.look(unit) + unit.count(14) + unit.count(15);
        Due.is("nothing changes", before.equals(behind) ? 1 : 0, 1);
        Due.is("the next tick fires as ever", unit.tick(90, 92, 91, false), 2);
    }

    private WhatIfTest() {
    }
}
