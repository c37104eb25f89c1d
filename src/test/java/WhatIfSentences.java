/** The sentences of the promises 11 to 13: ifTick, leastReading, ticksTo. */
final class WhatIfSentences {
    private static final int[] NO_READING = {-501, 501, Integer.MIN_VALUE, Integer.MAX_VALUE};
    private static final int[] NO_STAGE = {-1, 3, 32, Integer.MIN_VALUE, Integer.MAX_VALUE};

    private WhatIfSentences() {
    }

    static void check(Document document) {
        document.section("Promise 11");
        ifTick(document);
        ifTickErrors(document);
        document.section("Promise 12");
        least(document);
        leastOfAll(document);
        leastStages(document);
        leastErrors(document);
        document.section("Promise 13");
        ticksTo(document);
        ticksToErrors(document);
        fifty(document);
    }

    private static void ifTick(Document document) {
        document.sentence("Tells what the next tick would do.");
        int[][] ticks = {{1, 2, -3, 0}, {60, 61, 62, 1}, {60, 61, 62, 0}, {200, 210, 260, 0}, {-500, 500, 0, 1}, {9, 8, 7, 0}};
        VotedCharge unit = new VotedCharge();
        for (int[] tick : ticks) {
            int[] foreseen = new int[6];
            for (int what = 0; what < 6; what++) {
                foreseen[what] = unit.ifTick(tick[0], tick[1], tick[2], tick[3] == 1, what);
            }
            int fired = unit.tick(tick[0], tick[1], tick[2], tick[3] == 1);
            int place = unit.count(5) - 1;
            int[] due = {fired, unit.record(place, 5), unit.count(2), unit.record(place, 6), unit.record(place, 7),
                unit.record(place, 8)};
            for (int what = 0; what < 6; what++) {
                Due.is("what is " + what, foreseen[what], due[what]);
            }
        }
        document.sentence("- `what`: 0 the stages that would fire, as a set, 1 the middle, and 100000, 2 the sensors that "
            + "would have a vote, 3 the low votes, 4 the high votes, as sets, 5 whether it would be armed (1 or 0)");
        unit = new VotedCharge();
        unit.set(VotedCharge.DELAY, 0);
        int[] closed = {3, 100130, 6, 6, 4, 1};
        int[] open = {0, 100130, 6, 6, 4, 0};
        int[] below = {0, 99500, 7, 0, 0, 1};
        for (int what = 0; what < 6; what++) {
            Due.is("closed: " + what, unit.ifTick(50, 130, 160, true, what), closed[what]);
            Due.is("open: " + what, unit.ifTick(50, 130, 160, false, what), open[what]);
            Due.is("the least: " + what, unit.ifTick(-500, -500, -500, true, what), below[what]);
        }
        document.sentence("Returns the number;");
        Due.is("the number", unit.ifTick(500, 500, 500, true, 0), 7);
    }

    private static void ifTickErrors(Document document) {
        document.sentence("BAD_VALUE if a reading or what is out of range.");
        VotedCharge unit = new VotedCharge();
        for (int reading : NO_READING) {
            for (int what = 0; what < 6; what++) {
                Due.is("reading 0", unit.ifTick(reading, 0, 0, true, what), -2);
                Due.is("reading 1", unit.ifTick(0, reading, 0, true, what), -2);
                Due.is("reading 2", unit.ifTick(0, 0, reading, false, what), -2);
            }
        }
        for (int what : new int[] {-1, 6, Integer.MIN_VALUE, Integer.MAX_VALUE}) {
            Due.is("what", unit.ifTick(500, -500, 0, true, what), -2);
        }
        Due.is("the greatest what", unit.ifTick(500, -500, 0, true, 5), 1);
    }

    private static void least(Document document) {
        document.sentence("Finds the least reading, -500 to 500, with which the next tick would fire a stage, if all three "
            + "sensors had it.");
        VotedCharge unit = new VotedCharge();
        for (int low = 1; low <= 502; low++) {
            unit.set(VotedCharge.LOW, low);
            int due = low > 500 ? -6 : 100000 + Math.max(low, 5);
            Due.is("LOW is " + low, unit.leastReading(0, true), due);
        }
        Due.is("open and not armed", unit.leastReading(0, false), -6);
        unit = new VotedCharge();
        unit.set(VotedCharge.LOW, 50);
        Calls.tickAll(unit, 40, true);
        Due.is("15 more", unit.leastReading(0, true), 100015);
        Due.is("open, but armed", unit.leastReading(0, false), 100015);
        unit.set(VotedCharge.LOW, 35);
        Due.is("-5 would take 5, and -4 takes none", unit.leastReading(0, true), 99996);
        unit.set(VotedCharge.LOW, 30);
        Due.is("-5", unit.leastReading(0, true), 99995);
    }

    /** Readings that fire are no closed range: one that is the same again can take the vote of all. */
    private static void leastOfAll(Document document) {
        VotedCharge unit = new VotedCharge();
        unit.set(VotedCharge.STUCK, 2);
        Calls.tickAll(unit, 32, true);
        Due.is("32 would be stuck", unit.leastReading(0, true), 100033);
        unit = new VotedCharge();
        unit.set(VotedCharge.LOW, 100);
        for (int i = 0; i < 12; i++) {
            unit.tick(500 - i % 2, 500 - i % 2, 500 - i % 2, false);
        }
        Due.is("the speeds alone fire it", unit.leastReading(0, true), 99500);
        Due.is("not armed", unit.leastReading(0, false), -6);
        unit.set(VotedCharge.STUCK, 2);
        Calls.tickAll(unit, -500, false);
        Due.is("the speeds alone, but -500 would be stuck", unit.leastReading(0, true), 99501);
        unit = new VotedCharge();
        unit.set(VotedCharge.LOW, 500);
        Due.is("500 is the greatest", unit.leastReading(0, true), 100500);
        unit.set(VotedCharge.STUCK, 2);
        Calls.tickAll(unit, 500, false);
        unit.service();
        Due.is("500 would be stuck", unit.leastReading(0, true), -6);
    }

    private static void leastStages(Document document) {
        document.sentence("- `stage`: 0 to 2");
        VotedCharge unit = new VotedCharge();
        unit.set(VotedCharge.DELAY, 0);
        Due.is("stage 0", unit.leastReading(0, true), 100060);
        Due.is("stage 1", unit.leastReading(1, true), 100060);
        Due.is("stage 2", unit.leastReading(2, true), 100150);
        document.sentence("Returns the reading, and 100000;");
        unit.set(VotedCharge.LOW, 5);
        Due.is("5", unit.leastReading(0, true), 100005);
        unit.set(VotedCharge.LOW, 52);
        Calls.tickAll(unit, 51, true);
        unit.set(VotedCharge.LOW, 30);
        Due.is("below 0", unit.leastReading(0, true), 99986);
    }

    private static void leastErrors(Document document) {
        document.sentence("NO_SUCH if there is no such stage;");
        VotedCharge unit = new VotedCharge();
        for (int stage : NO_STAGE) {
            Due.is("closed", unit.leastReading(stage, true), -1);
            Due.is("open", unit.leastReading(stage, false), -1);
        }
        document.sentence("NONE if there is none.");
        Due.is("open", unit.leastReading(0, false), -6);
        Due.is("1 has to wait", unit.leastReading(1, true), -6);
        Due.is("2 has to wait", unit.leastReading(2, true), -6);
        unit.bar(0, true);
        Due.is("barred", unit.leastReading(0, true), -6);
        unit.bar(0, false);
        Calls.tickAll(unit, 60, true);
        Due.is("fired", unit.leastReading(0, true), -6);
        Due.is("the delay", unit.leastReading(1, true), -6);
        Calls.tickAll(unit, 61, true);
        Due.is("behind the delay", unit.leastReading(1, true) >= 0 ? 1 : 0, 1);
        Due.is("no votes", Calls.withVotes(0).leastReading(0, true), -6);
        Due.is("one vote", Calls.withVotes(4).leastReading(0, true), -6);
        Due.is("two votes", Calls.withVotes(5).leastReading(0, true), 100060);
    }

    private static void ticksTo(Document document) {
        document.sentence("Tells behind how many ticks, all with the same readings, a stage would be fired.");
        VotedCharge unit = new VotedCharge();
        Due.is("at once", unit.ticksTo(0, 60), 1);
        Due.is("51, 59 + 51", unit.ticksTo(0, 59), 2);
        Due.is("1 waits for 0", unit.ticksTo(1, 60), 3);
        Due.is("2 waits for 1", unit.ticksTo(2, 60), 5);
        Due.is("seven ticks", unit.ticksTo(0, 13), 7);
        Due.is("eight would be stuck", unit.ticksTo(0, 12), -6);
        Calls.tickAll(unit, 13, false);
        Due.is("one of seven is behind it", unit.ticksTo(0, 13), 6);
        Due.is("seven are left of eight", unit.ticksTo(0, 12), 7);
        document.sentence("- `reading`: of all three sensors, -500 to 500, with the switch closed");
        unit = new VotedCharge();
        Due.is("500", unit.ticksTo(0, 500), 1);
        Due.is("-500", unit.ticksTo(0, -500), -6);
        Due.is("closed: it is armed, though it was not", unit.ticksTo(0, 60), 1);
        unit.set(VotedCharge.LOW, 1);
        Due.is("closed: the offsets stay, and 3 is never above 4", unit.ticksTo(0, 3), -6);
        document.sentence("Returns how many (0 if it is fired);");
        Calls.tickAll(unit, 100, true);
        for (int reading = -500; reading <= 500; reading += 100) {
            Due.is("fired", unit.ticksTo(0, reading), 0);
        }
        Due.is("the next tick would fire nothing, the one behind it would", unit.ticksTo(1, 101), 2);
    }

    private static void ticksToErrors(Document document) {
        document.sentence("NO_SUCH if there is no such stage;");
        VotedCharge unit = new VotedCharge();
        for (int stage : NO_STAGE) {
            Due.is("stage", unit.ticksTo(stage, 100), -1);
        }
        document.sentence("BAD_VALUE if reading is out of range;");
        for (int reading : NO_READING) {
            Due.is("reading", unit.ticksTo(0, reading), -2);
        }
        Calls.tickAll(unit, 60, true);
        for (int reading : NO_READING) {
            Due.is("reading, and the stage is fired", unit.ticksTo(0, reading), -2);
        }
    }

    private static void fifty(Document document) {
        document.sentence("NONE if it would not be behind 50 ticks.");
        Due.is("behind 49", stuckInTheFiftieth(53).ticksTo(2, 10), 49);
        Due.is("in the tick 50 all are stuck", stuckInTheFiftieth(54).ticksTo(2, 10), -6);
        VotedCharge unit = stuckInTheFiftieth(53);
        Calls.tickAll(unit, -5, true);
        Due.is("a tick of another reading ahead of them makes it 50", unit.ticksTo(2, 10), -6);
        unit = new VotedCharge();
        unit.bar(0, true);
        Due.is("barred", unit.ticksTo(0, 500), -6);
        unit.bar(1, true);
        Due.is("2 waits for 1 for ever", unit.ticksTo(2, 500), -6);
        Due.is("no votes", Calls.withVotes(0).ticksTo(0, 500), -6);
        Due.is("one vote", Calls.withVotes(1).ticksTo(0, 500), -6);
        Due.is("two votes", Calls.withVotes(3).ticksTo(0, 500), 1);
    }

    /** The readings 10 give the speed 53 behind 9 ticks, and 54 behind 10. */
    private static VotedCharge stuckInTheFiftieth(int low) {
        VotedCharge unit = new VotedCharge();
        unit.set(VotedCharge.STUCK, 50);
        unit.set(VotedCharge.DELAY, 20);
        unit.set(VotedCharge.HIGH, 1);
        unit.set(VotedCharge.LOW, low);
        return unit;
    }
}
