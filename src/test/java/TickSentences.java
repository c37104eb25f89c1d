/** The sentences of "A tick" up to the votes. */
final class TickSentences {
    private static final int OFFSET = 0;
    private static final int SPEED = 1;

    private TickSentences() {
    }

    static void check(Document document) {
        document.section("A tick");
        sensorsAndStages(document);
        ticks(document);
        stuck(document);
        stuckSince(document);
        acceleration(document);
        middleOfThree(document);
        middleOfFewer(document);
        far(document);
        farWithFewerVotes(document);
        middleStays(document);
        quiet(document);
        quietVotes(document);
        towards(document);
        accelerationsStay(document);
        speeds(document);
        arming(document);
        armed(document);
        lowVotes(document);
        highVotes(document);
    }

    private static void sensorsAndStages(Document document) {
        document.sentence("There are three sensors, 0 to 2, each with an offset (0 at first), a speed (0 at first), and a "
            + "vote, until it loses it.");
        VotedCharge unit = new VotedCharge();
        for (int sensor = 0; sensor < 3; sensor++) {
            Due.is("offset", unit.sensor(sensor, OFFSET), 100000);
            Due.is("speed", unit.sensor(sensor, SPEED), 100000);
            Due.is("vote", unit.sensor(sensor, 2), 1);
        }
        Due.is("a sensor below", unit.sensor(-1, 0), -1);
        Due.is("a sensor above", unit.sensor(3, 0), -1);
        unit.tick(0, 0, 400, false);
        Due.is("2 loses its vote", unit.count(2), 3);
        for (int i = 0; i < 10; i++) {
            unit.tick(i % 2, i % 2, i % 2, false);
            Due.is("it has lost it", unit.count(2), 3);
        }
        document.sentence("There are three stages, 0 to 2, which are not fired at first.");
        unit = new VotedCharge();
        for (int stage = 0; stage < 3; stage++) {
            Due.is("not fired", unit.stage(stage, 0), -6);
        }
        Due.is("none is", unit.count(3), 0);
        Due.is("a stage below", unit.stage(-1, 0), -1);
        Due.is("a stage above", unit.stage(3, 0), -1);
    }

    private static void ticks(Document document) {
        document.sentence("A tick gives a reading of each sensor (-500 to 500), and whether the switch is closed.");
        int[][] readings = {{-500, 0, 500}, {500, -500, 0}, {0, 500, -500}};
        VotedCharge unit = new VotedCharge();
        for (int i = 0; i < 3; i++) {
            Due.is("tick", unit.tick(readings[i][0], readings[i][1], readings[i][2], i == 1), 0);
            for (int sensor = 0; sensor < 3; sensor++) {
                Due.is("reading", unit.record(i, 1 + sensor), 100000 + readings[i][sensor]);
            }
            Due.is("switch", unit.record(i, 4), i == 1 ? 1 : 0);
        }
        int[] wrong = {-501, 501};
        for (int reading : wrong) {
            Due.is("reading 0", unit.tick(reading, 0, 0, true), -2);
            Due.is("reading 1", unit.tick(0, reading, 0, true), -2);
            Due.is("reading 2", unit.tick(0, 0, reading, true), -2);
        }
        document.sentence("Ticks are numbered from 0; this is done in a tick:");
        Due.is("the first tick", unit.record(0, 0), 0);
        Due.is("the third tick", unit.record(2, 0), 2);
        Due.is("how many", unit.count(0), 3);
    }

    /** One of the sensors reads the same, but not in the tick odd; the others never do. */
    private static VotedCharge sameIn(int sensor, int ticks, int odd) {
        VotedCharge unit = new VotedCharge();
        for (int i = 0; i < ticks; i++) {
            int[] readings = {i % 2, -i % 2, i % 3};
            readings[sensor] = i == odd ? 2 : 3;
            unit.tick(readings[0], readings[1], readings[2], true);
        }
        return unit;
    }

    private static void stuck(Document document) {
        document.sentence("1. Stuck: each sensor that had the same reading in this tick and in the STUCK - 1 ticks ahead "
            + "of it");
        for (int sensor = 0; sensor < 3; sensor++) {
            Due.is("seven ticks", sameIn(sensor, 7, -1).count(2), 7);
            Due.is("eight ticks", sameIn(sensor, 8, -1).count(2), 7 - (1 << sensor));
            Due.is("the same for eight", sameIn(sensor, 8, -1).sensor(sensor, 3), 8);
            for (int odd = 0; odd < 8; odd++) {
                Due.is("eight ticks, one of which is another", sameIn(sensor, 8, odd).count(2), 7);
            }
            Due.is("nine ticks, the first one of which is another", sameIn(sensor, 9, 0).count(2), 7 - (1 << sensor));
        }
        VotedCharge unit = new VotedCharge();
        unit.set(VotedCharge.STUCK, 2);
        Calls.tickAll(unit, -500, true);
        Due.is("all three at once", unit.ifTick(-500, -500, -500, true, 2), 0);
        Due.is("two at once", unit.ifTick(-500, -499, -500, true, 2), 2);
        Due.is("none", unit.ifTick(-499, -499, -499, true, 2), 7);
        Due.is("the vote is lost ahead of the middle", unit.ifTick(-500, -480, -470, true, 1), 99520);
    }

    private static void stuckSince(Document document) {
        document.sentence("(since the beginning, or its latest self-test) loses its vote.");
        VotedCharge unit = new VotedCharge();
        unit.set(VotedCharge.STUCK, 2);
        Calls.tickAll(unit, 0, true);
        Due.is("no tick is ahead of the first one", unit.count(2), 7);
        unit.test(1);
        Due.is("no tick is ahead of a test", unit.ifTick(0, 0, 0, true, 2), 2);
        unit.set(VotedCharge.STUCK, 3);
        Calls.tickAll(unit, 0, true);
        Due.is("two are, and one", unit.sensor(1, 3), 1);
        unit.test(1);
        unit.set(VotedCharge.STUCK, 2);
        Calls.tickAll(unit, 0, true);
        Due.is("the latest test is the one that counts", unit.count(2), 2);
        Calls.tickAll(unit, 0, true);
        Due.is("two ticks are behind it", unit.count(2), 0);
        unit = new VotedCharge();
        for (int i = 0; i < 7; i++) {
            Calls.tickAll(unit, 1, true);
        }
        unit.service();
        Due.is("a service is no test", unit.ifTick(1, 1, 1, true, 2), 0);
        unit.set(VotedCharge.STUCK, 9);
        Due.is("eight are not nine", unit.ifTick(1, 1, 1, true, 2), 7);
        unit.set(VotedCharge.STUCK, 3);
        Due.is("more than STUCK are enough, too", unit.ifTick(1, 1, 1, true, 2), 0);
        Due.is("the setting alone takes no vote", unit.count(2), 7);
    }

    /** The offsets are 1, 1 and -1, the speeds 0. */
    private static VotedCharge withOffsets() {
        VotedCharge unit = new VotedCharge();
        unit.tick(3, 3, -3, false);
        return unit;
    }

    private static void acceleration(Document document) {
        document.sentence("2. The acceleration of a sensor is its reading less its offset.");
        VotedCharge unit = withOffsets();
        unit.set(VotedCharge.FAR, 500);
        unit.tick(500, 499, 498, true);
        Due.is("less 1", unit.sensor(0, SPEED), 100499);
        Due.is("less 1", unit.sensor(1, SPEED), 100498);
        Due.is("less -1", unit.sensor(2, SPEED), 100499);
        unit = withOffsets();
        unit.tick(-500, -500, -500, true);
        Due.is("-500 less 1", unit.sensor(0, SPEED), 99499);
        Due.is("-500 less -1", unit.sensor(2, SPEED), 99501);
        Due.is("the middle is one of them", unit.record(1, 5), 99499);
    }

    private static void middleOfThree(Document document) {
        document.sentence("The middle is, of the accelerations of the sensors that have a vote, the middle one if there "
            + "are three,");
        int[] some = {-500, -20, 0, 20, 500};
        VotedCharge unit = new VotedCharge();
        for (int one : some) {
            for (int two : some) {
                for (int three : some) {
                    int least = Math.min(one, Math.min(two, three));
                    int most = Math.max(one, Math.max(two, three));
                    Due.is("the middle one", unit.ifTick(one, two, three, true, 1), 100000 + one + two + three - least - most);
                }
            }
        }
        unit = withOffsets();
        Due.is("of the accelerations, not of the readings", unit.ifTick(11, 30, 10, true, 1), 100011);
    }

    private static void middleOfFewer(Document document) {
        document.sentence("the lesser one of two, the only one of one, 0 of none.");
        int[] due = {0, -30, 10, -30, 70, -30, 10};
        int[] dueTurned = {0, 30, -10, -10, -70, -70, -70};
        for (int votes = 0; votes < 7; votes++) {
            VotedCharge unit = Calls.withVotes(votes);
            Due.is("the middle", unit.ifTick(-30, 10, 70, true, 1), 100000 + due[votes]);
            Due.is("the middle, turned", unit.ifTick(30, -10, -70, true, 1), 100000 + dueTurned[votes]);
            Due.is("of the same", unit.ifTick(7, 7, 7, true, 1), votes == 0 ? 100000 : 100007);
            Due.is("of the greatest", unit.ifTick(500, 500, 500, true, 1), votes == 0 ? 100000 : 100500);
            Due.is("of the least", unit.ifTick(-500, -500, -500, true, 1), votes == 0 ? 100000 : 99500);
        }
        Due.is("three", new VotedCharge().ifTick(-30, 10, 70, true, 1), 100010);
    }

    private static void far(Document document) {
        document.sentence("3. Far: if three sensors have a vote, each one whose acceleration differs from the middle by "
            + "more than FAR loses it.");
        VotedCharge unit = new VotedCharge();
        int[][] ticks = {{0, 0, 40, 7}, {0, 0, 41, 3}, {0, 0, -40, 7}, {0, 0, -41, 3}, {41, 0, 0, 6}, {40, 0, 0, 7},
            {0, 41, 0, 5}, {0, 40, 0, 7}, {-41, 0, 0, 6}, {0, -41, 0, 5}, {-40, 0, 40, 7}, {-41, 0, 40, 6},
            {-40, 0, 41, 3}, {-41, 0, 41, 2}, {41, -41, 0, 4}, {0, 41, -41, 1}, {500, 500, -500, 3}, {500, -500, 0, 4}};
        for (int[] tick : ticks) {
            Due.is(tick[0] + ", " + tick[1] + ", " + tick[2], unit.ifTick(tick[0], tick[1], tick[2], true, 2), tick[3]);
            Due.is("open", unit.ifTick(tick[0], tick[1], tick[2], false, 2), tick[3]);
        }
        unit = withOffsets();
        Due.is("-1, -1, 40: 41 away", unit.ifTick(0, 0, 39, true, 2), 3);
        Due.is("-1, -1, 39: 40 away", unit.ifTick(0, 0, 38, true, 2), 7);
        Due.is("the readings are 42 away, the accelerations 40", unit.ifTick(42, 42, 0, true, 2), 7);
    }

    private static void farWithFewerVotes(Document document) {
        for (int votes = 0; votes < 7; votes++) {
            VotedCharge unit = Calls.withVotes(votes);
            Due.is("with fewer than three none is far", unit.ifTick(-500, 0, 500, true, 2), votes);
            Due.is("nor the other way", unit.ifTick(500, -500, 0, true, 2), votes);
        }
        VotedCharge unit = new VotedCharge();
        unit.set(VotedCharge.STUCK, 2);
        unit.tick(100, 100, 100, true);
        Due.is("one is stuck in this tick, so two have a vote", unit.ifTick(100, -500, 500, true, 2), 6);
    }

    private static void middleStays(Document document) {
        document.sentence("(The middle stays.)");
        VotedCharge unit = new VotedCharge();
        unit.tick(0, 4, 100, false);
        Due.is("2 is far", unit.count(2), 3);
        Due.is("the middle is not that of the other two", unit.record(0, 5), 100004);
        Due.is("and so it is not quiet", unit.sensor(1, OFFSET), 100000);
        unit = new VotedCharge();
        unit.tick(-100, 3, 4, false);
        Due.is("0 is far", unit.count(2), 6);
        Due.is("the middle", unit.record(0, 5), 100003);
        Due.is("it is quiet", unit.sensor(2, OFFSET), 100001);
    }

    private static void quiet(Document document) {
        document.sentence("4. Quiet: if the middle is -3 to 3, and the switch is open,");
        int[][] middles = {{-5, 0}, {-4, 0}, {-3, -1}, {-2, -1}, {-1, -1}, {0, 0}, {1, 1}, {2, 1}, {3, 1}, {4, 0}, {5, 0}};
        for (int[] middle : middles) {
            VotedCharge open = new VotedCharge();
            Calls.tickAll(open, middle[0], false);
            VotedCharge closed = new VotedCharge();
            Calls.tickAll(closed, middle[0], true);
            for (int sensor = 0; sensor < 3; sensor++) {
                Due.is("open, a middle of " + middle[0], open.sensor(sensor, OFFSET), 100000 + middle[1]);
                Due.is("closed, a middle of " + middle[0], closed.sensor(sensor, OFFSET), 100000);
            }
        }
        VotedCharge unit = new VotedCharge();
        Calls.tickAll(unit, 10, true);
        Calls.tickAll(unit, 3, false);
        Due.is("open, though armed", unit.sensor(0, OFFSET), 100001);
        Calls.tickAll(unit, 4, false);
        Due.is("a reading of 4 is an acceleration of 3", unit.sensor(0, OFFSET), 100002);
        Calls.tickAll(unit, 6, false);
        Due.is("one of 6 is one of 4", unit.sensor(0, OFFSET), 100002);
        Calls.tickAll(unit, -2, false);
        Due.is("one of -2 is one of -4", unit.sensor(0, OFFSET), 100002);
        Calls.tickAll(unit, -1, false);
        Due.is("one of -1 is one of -3", unit.sensor(0, OFFSET), 100001);
    }

    private static void quietVotes(Document document) {
        document.sentence("the offset of each sensor that has a vote moves by 1");
        for (int votes = 0; votes < 8; votes++) {
            VotedCharge unit = Calls.withVotes(votes);
            unit.tick(2, 3, -2, false);
            int[] due = {1, 1, -1};
            for (int sensor = 0; sensor < 3; sensor++) {
                boolean has = (votes >> sensor & 1) == 1;
                Due.is("with votes " + votes, unit.sensor(sensor, OFFSET), 100000 + (has ? due[sensor] : 0));
            }
        }
        VotedCharge unit = new VotedCharge();
        unit.tick(41, 0, 40, false);
        Due.is("40 is the middle: not quiet", unit.sensor(1, OFFSET), 100000);
        unit.tick(2, 0, 43, false);
        Due.is("it lost its vote in this tick", unit.sensor(2, OFFSET), 100000);
        Due.is("the others did not", unit.sensor(0, OFFSET), 100001);
        unit = new VotedCharge();
        unit.set(VotedCharge.STUCK, 2);
        unit.tick(2, 50, 60, true);
        unit.tick(2, 3, 61, false);
        Due.is("stuck in this tick", unit.sensor(0, OFFSET), 100000);
        Due.is("3 is the lesser one", unit.sensor(1, OFFSET), 100001);
    }

    private static void towards(Document document) {
        document.sentence("towards its reading (not at all if it is the same).");
        VotedCharge unit = Calls.withVotes(3);
        unit.tick(-3, 500, 0, false);
        Due.is("by 1 up to 500", unit.sensor(1, OFFSET), 100001);
        Due.is("by 1 down to -3", unit.sensor(0, OFFSET), 99999);
        unit.tick(-1, 1, 0, false);
        Due.is("-1 is -1", unit.sensor(0, OFFSET), 99999);
        Due.is("1 is 1", unit.sensor(1, OFFSET), 100001);
        unit.tick(0, 0, 0, false);
        Due.is("up to 0", unit.sensor(0, OFFSET), 100000);
        Due.is("down to 0", unit.sensor(1, OFFSET), 100000);
        unit.tick(0, 0, 0, false);
        Due.is("0 is 0", unit.sensor(0, OFFSET), 100000);
        unit = Calls.withVotes(1);
        for (int i = 1; i <= 5; i++) {
            unit.tick(2, 500, 0, false);
            Due.is("not above 2", unit.sensor(0, OFFSET), 100000 + Math.min(i, 2));
        }
    }

    private static void accelerationsStay(Document document) {
        document.sentence("(The accelerations stay.)");
        VotedCharge unit = new VotedCharge();
        unit.tick(5, 0, -5, false);
        Due.is("5 is added, though the offset is 1", unit.sensor(0, SPEED), 100005);
        Due.is("the offset", unit.sensor(0, OFFSET), 100001);
        Due.is("-5 is added, though the offset is -1", unit.sensor(2, SPEED), 99995);
        Due.is("the offset", unit.sensor(2, OFFSET), 99999);
        unit.tick(5, 0, -5, true);
        Due.is("the next acceleration is 4, and not added", unit.sensor(0, SPEED), 100004);
        Due.is("or -4", unit.sensor(2, SPEED), 99996);
    }

    private static void speeds(Document document) {
        document.sentence("5. The speed of each sensor becomes its speed * 7 / 8,");
        VotedCharge unit = new VotedCharge();
        unit.tick(15, -15, 9, true);
        unit.tick(0, 0, 0, true);
        Due.is("15 * 7 / 8 is 13", unit.sensor(0, SPEED), 100013);
        Due.is("-15 * 7 / 8 is -13", unit.sensor(1, SPEED), 99987);
        Due.is("9 * 7 / 8 is 7", unit.sensor(2, SPEED), 100007);
        unit = Calls.withVotes(0);
        unit.tick(40, 41, 42, false);
        Due.is("also without a vote", unit.sensor(1, SPEED), 100041);
        unit.tick(0, 0, 0, false);
        Due.is("35", unit.sensor(0, SPEED), 100035);
        document.sentence("and its acceleration is added, if that is above 4 or below -4.");
        int[][] pairs = {{-500, -500}, {-6, -6}, {-5, -5}, {-4, 0}, {-1, 0}, {0, 0}, {1, 0}, {4, 0}, {5, 5}, {6, 6}, {500, 500}};
        for (int[] pair : pairs) {
            for (int sensor = 0; sensor < 3; sensor++) {
                int[] readings = new int[3];
                readings[sensor] = pair[0];
                unit = new VotedCharge();
                unit.tick(readings[0], readings[1], readings[2], true);
                Due.is("behind " + pair[0], unit.sensor(sensor, SPEED), 100000 + pair[1]);
                unit.tick(readings[0], readings[1], readings[2], false);
                Due.is("behind two of " + pair[0], unit.sensor(sensor, SPEED), 100000 + pair[1] * 7 / 8 + pair[1]);
            }
        }
    }

    private static void arming(Document document) {
        document.sentence("6. Arming: if the switch is closed, what is left of the arming becomes HOLD;");
        VotedCharge unit = new VotedCharge();
        unit.set(VotedCharge.HOLD, 3);
        Calls.tickAll(unit, 1, true);
        Due.is("HOLD", unit.count(1), 3);
        Calls.tickAll(unit, 2, true);
        Due.is("HOLD again", unit.count(1), 3);
        unit.set(VotedCharge.HOLD, 1);
        Due.is("what is left stays", unit.count(1), 3);
        document.sentence("otherwise it becomes one less, if it is above 0.");
        Calls.tickAll(unit, 1, false);
        Due.is("2", unit.count(1), 2);
        Calls.tickAll(unit, 2, false);
        Due.is("1", unit.count(1), 1);
        Calls.tickAll(unit, 1, false);
        Due.is("0", unit.count(1), 0);
        Calls.tickAll(unit, 2, false);
        Due.is("0 stays", unit.count(1), 0);
        Calls.tickAll(unit, 1, true);
        Due.is("the HOLD of then", unit.count(1), 1);
    }

    private static void armed(Document document) {
        document.sentence("The unit is armed if what is left is above 0.");
        VotedCharge unit = new VotedCharge();
        unit.set(VotedCharge.HOLD, 2);
        Calls.tickAll(unit, 1, false);
        Calls.tickAll(unit, 2, true);
        Calls.tickAll(unit, 1, false);
        Due.is("1 is left, then 0: not armed", unit.ifTick(90, 90, 90, false, 5), 0);
        Due.is("so nothing fires", unit.ifTick(90, 90, 90, false, 0), 0);
        Calls.tickAll(unit, 2, false);
        int[] due = {0, 1, 1, 0};
        for (int i = 0; i < due.length; i++) {
            Due.is("armed in the tick " + i, unit.record(i, 8), due[i]);
        }
        Due.is("closed: armed", unit.ifTick(90, 90, 90, true, 5), 1);
    }

    private static void lowVotes(Document document) {
        document.sentence("7. Votes: the low votes are the sensors that have a vote, and a speed of at least LOW;");
        VotedCharge unit = new VotedCharge();
        Due.is("59", unit.ifTick(59, 59, 59, true, 3), 0);
        Due.is("60", unit.ifTick(60, 60, 60, true, 3), 7);
        Due.is("59, 60, 61", unit.ifTick(59, 60, 61, true, 3), 6);
        Due.is("far", unit.ifTick(60, 60, 101, true, 3), 3);
        Due.is("not armed: the votes are the same", unit.ifTick(60, 60, 60, false, 3), 7);
        for (int votes = 0; votes < 8; votes++) {
            unit = Calls.withVotes(votes);
            Due.is("votes " + votes, unit.ifTick(60, 60, 60, true, 3), votes);
            Due.is("votes " + votes + ", the least speeds", unit.ifTick(-500, -500, -500, true, 3), 0);
        }
    }

    private static void highVotes(Document document) {
        document.sentence("the high votes those with a speed of at least HIGH.");
        VotedCharge unit = new VotedCharge();
        Due.is("149", unit.ifTick(149, 149, 149, true, 4), 0);
        Due.is("150", unit.ifTick(150, 150, 150, true, 4), 7);
        Due.is("150, 149, 151", unit.ifTick(150, 149, 151, true, 4), 5);
        Due.is("far", unit.ifTick(191, 150, 150, true, 4), 6);
        for (int votes = 0; votes < 8; votes++) {
            unit = Calls.withVotes(votes);
            Due.is("votes " + votes, unit.ifTick(150, 150, 150, true, 4), votes);
        }
        unit = new VotedCharge();
        unit.set(VotedCharge.HIGH, 50);
        Due.is("HIGH can be below LOW", unit.ifTick(50, 49, 50, true, 4), 5);
        Due.is("then none is low", unit.ifTick(50, 49, 50, true, 3), 0);
    }
}
