/** Promise 3, step by step: what is done in a tick. */
public final class TickTest {
    public static void main(String[] args) {
        stuck();
        stuckBySetting();
        stuckAheadOfMiddle();
        middleOfThree();
        middleOfFewer();
        far();
        quiet();
        quietEdges();
        speeds();
        arming();
        votes();
        stageZero();
        delays();
        delayZero();
        delayChanged();
        stageTwo();
        Due.end();
    }

    private static void stuck() {
        VotedCharge unit = new VotedCharge();
        for (int i = 0; i < 7; i++) {
            unit.tick(4, i, 0, true);
        }
        Due.is("seven ticks: none is stuck", unit.count(2), 7);
        Due.is("same for seven", unit.sensor(0, 3), 7);
        unit.tick(4, 7, 1, true);
        Due.is("eight ticks: 0 is stuck", unit.count(2), 6);
        Due.is("same for eight", unit.sensor(0, 3), 8);
        Due.is("same for one", unit.sensor(2, 3), 1);
        unit.tick(5, 7, 1, true);
        Due.is("another reading does not give the vote back", unit.count(2), 6);
        Due.is("same for one again", unit.sensor(0, 3), 1);
        Due.is("same for two", unit.sensor(1, 3), 2);
        Due.is("its latest reading", unit.sensor(0, 4), 100005);
        unit = new VotedCharge();
        unit.set(VotedCharge.STUCK, 2);
        Calls.tickAll(unit, 0, false);
        Due.is("the first tick has no tick ahead of it, also with 0", unit.count(2), 7);
        Due.is("same for one at first", unit.sensor(1, 3), 1);
        Calls.tickAll(unit, 0, false);
        Due.is("the second one does", unit.count(2), 0);
    }

    private static void stuckBySetting() {
        VotedCharge unit = new VotedCharge();
        for (int i = 0; i < 5; i++) {
            unit.tick(9, i, -i, true);
        }
        unit.set(VotedCharge.STUCK, 4);
        Due.is("a setting alone takes no vote", unit.count(2), 7);
        unit.tick(9, 5, -5, true);
        Due.is("six ticks are above four", unit.count(2), 6);
        unit.set(VotedCharge.STUCK, 50);
        unit.test(0);
        unit.tick(9, 6, -6, true);
        Due.is("it votes behind a test", unit.count(2), 7);
    }

    private static void stuckAheadOfMiddle() {
        VotedCharge unit = new VotedCharge();
        unit.set(VotedCharge.STUCK, 2);
        unit.tick(10, 20, 30, true);
        unit.tick(11, 20, 31, true);
        Due.is("a stuck sensor is not in the middle of its tick", unit.record(1, 5), 100011);
        unit.tick(500, 0, -500, true);
        Due.is("with two none is far", unit.count(2), 5);
        Due.is("the lesser one of two", unit.record(2, 5), 99500);
    }

    private static void middleOfThree() {
        int[][] orders = {{10, 20, 30}, {10, 30, 20}, {20, 10, 30}, {20, 30, 10}, {30, 10, 20}, {30, 20, 10}};
        for (int[] order : orders) {
            VotedCharge unit = new VotedCharge();
            Due.is("the middle one", unit.ifTick(order[0], order[1], order[2], true, 1), 100020);
            Due.is("below 0", unit.ifTick(-order[0], -order[1], -order[2], true, 1), 99980);
        }
        VotedCharge unit = new VotedCharge();
        Due.is("two are the same", unit.ifTick(7, 7, -40, true, 1), 100007);
        Due.is("two are the same, below", unit.ifTick(-7, 40, -7, true, 1), 99993);
        unit.tick(3, 0, 0, false);
        Due.is("the offset of 0", unit.sensor(0, 0), 100001);
        Due.is("accelerations are less their offsets", unit.ifTick(11, 9, 10, true, 1), 100010);
        Due.is("their middle, not that of the readings", unit.ifTick(10, 9, 20, true, 1), 100009);
    }

    private static void middleOfFewer() {
        VotedCharge unit = new VotedCharge();
        unit.set(VotedCharge.STUCK, 2);
        unit.tick(1, 50, 3, true);
        unit.tick(2, 50, 4, true);
        Due.is("two have a vote", unit.count(2), 5);
        Due.is("the lesser one is 2's", unit.ifTick(9, 70, -9, true, 1), 99991);
        Due.is("the lesser one is 0's", unit.ifTick(-30, -90, 30, true, 1), 99970);
        unit.tick(2, 51, 5, true);
        Due.is("one has a vote", unit.count(2), 4);
        Due.is("the only one", unit.ifTick(-90, -80, 30, true, 1), 100030);
        unit.tick(3, 52, 5, true);
        Due.is("none has a vote", unit.count(2), 0);
        Due.is("0 of none", unit.record(3, 5), 100000);
        Due.is("0 of none, whatever they read", unit.ifTick(400, 400, 400, true, 1), 100000);
    }

    private static void far() {
        VotedCharge unit = new VotedCharge();
        Due.is("40 is not far", unit.ifTick(0, 40, 80, true, 2), 7);
        Due.is("41 below is far", unit.ifTick(0, 41, 80, true, 2), 6);
        Due.is("41 above is far", unit.ifTick(0, 40, 81, true, 2), 3);
        Due.is("two are far", unit.ifTick(-41, 0, 41, true, 2), 2);
        Due.is("the middle stays", unit.ifTick(-41, 0, 200, true, 1), 100000);
        unit.set(VotedCharge.FAR, 1);
        Due.is("1 is not far", unit.ifTick(5, 6, 7, true, 2), 7);
        Due.is("2 is far", unit.ifTick(5, 6, 8, true, 2), 3);
        unit.set(VotedCharge.FAR, 500);
        Due.is("500 is not far", unit.ifTick(0, 500, -500, true, 2), 7);
        Due.is("501 is far", unit.ifTick(-1, 500, 499, true, 2), 7);
        Due.is("501 below is far", unit.ifTick(-1, 500, 500, true, 2), 6);
        unit.set(VotedCharge.FAR, 40);
        unit.tick(100, 100, 200, false);
        Due.is("2 lost its vote", unit.count(2), 3);
        unit.tick(100, 101, 100, false);
        Due.is("it stays lost", unit.count(2), 3);
        unit.tick(500, -500, 0, false);
        Due.is("with two votes none is far", unit.count(2), 3);
        unit.set(VotedCharge.STUCK, 2);
        Due.is("2 has a vote again", unit.test(2), 1);
        unit.tick(500, -499, 0, false);
        Due.is("stuck first: then two vote, and none is far", unit.count(2), 6);
    }

    private static void quiet() {
        VotedCharge unit = new VotedCharge();
        unit.tick(3, -2, 0, false);
        Due.is("up by 1", unit.sensor(0, 0), 100001);
        Due.is("down by 1", unit.sensor(1, 0), 99999);
        Due.is("not at all", unit.sensor(2, 0), 100000);
        Due.is("the middle of that tick", unit.record(0, 5), 100000);
        unit.tick(3, -2, 1, true);
        Due.is("not with the switch closed", unit.sensor(0, 0), 100001);
        unit.tick(30, -31, 1, false);
        Due.is("towards a reading of 30", unit.sensor(0, 0), 100002);
        Due.is("towards a reading of -31", unit.sensor(1, 0), 99998);
        Due.is("towards a reading of 1", unit.sensor(2, 0), 100001);
        Due.is("the acceleration stays: it is added", unit.sensor(0, 1), 100029);
        Due.is("the acceleration stays below 0", unit.sensor(1, 1), 99970);
        unit.tick(100, -1, 1, false);
        Due.is("0 is far", unit.count(2), 6);
        Due.is("quiet, but it has no vote", unit.sensor(0, 0), 100002);
        Due.is("those with a vote learn", unit.sensor(1, 0), 99999);
        unit = new VotedCharge();
        unit.set(VotedCharge.STUCK, 2);
        unit.tick(2, 2, 2, true);
        unit.tick(2, 2, 2, false);
        Due.is("no votes: no offsets", unit.sensor(0, 0), 100000);
    }

    private static void quietEdges() {
        int[] readings = {-4, -3, 3, 4};
        int[] offsets = {100000, 99999, 100001, 100000};
        for (int i = 0; i < readings.length; i++) {
            VotedCharge unit = new VotedCharge();
            Calls.tickAll(unit, readings[i], false);
            for (int sensor = 0; sensor < 3; sensor++) {
                Due.is("offset behind " + readings[i], unit.sensor(sensor, 0), offsets[i]);
            }
        }
        VotedCharge unit = new VotedCharge();
        for (int i = 0; i < 5; i++) {
            unit.tick(2, 3, i % 2 * 6, false);
        }
        Due.is("no further than the reading 2", unit.sensor(0, 0), 100002);
        Due.is("no further than the reading 3", unit.sensor(1, 0), 100003);
    }

    private static void speeds() {
        VotedCharge unit = new VotedCharge();
        unit.tick(4, -4, 5, true);
        Due.is("4 is not added", unit.sensor(0, 1), 100000);
        Due.is("-4 is not added", unit.sensor(1, 1), 100000);
        Due.is("5 is added", unit.sensor(2, 1), 100005);
        unit.tick(-5, 30, -20, true);
        Due.is("-5 is added", unit.sensor(0, 1), 99995);
        Due.is("5 * 7 / 8 is 4", unit.sensor(2, 1), 100004 - 20);
        unit.tick(0, 0, 0, true);
        Due.is("-5 * 7 / 8 is -4", unit.sensor(0, 1), 99996);
        Due.is("30 * 7 / 8 is 26", unit.sensor(1, 1), 100026);
        Due.is("-16 * 7 / 8 is -14", unit.sensor(2, 1), 99986);
        unit.tick(1, 100, 2, true);
        Due.is("1 is far", unit.count(2), 5);
        Due.is("the speed without a vote: 22 + 100", unit.sensor(1, 1), 100122);
        unit.tick(2, -50, 3, true);
        Due.is("and on: 106 - 50", unit.sensor(1, 1), 100056);
        unit = new VotedCharge();
        for (int i = 0; i < 60; i++) {
            unit.tick(-500 + i % 2, -500, 500, true);
        }
        Due.is("the least speed", unit.sensor(1, 1), 100000 - lastSpeed(500, 60));
        Due.is("the greatest speed", unit.sensor(2, 1), 100000 + lastSpeed(500, 60));
    }

    private static int lastSpeed(int acceleration, int ticks) {
        int speed = 0;
        for (int i = 0; i < ticks; i++) {
            speed = speed - (speed + 7) / 8 + acceleration;
        }
        return speed;
    }

    private static void arming() {
        VotedCharge unit = new VotedCharge();
        Calls.tickAll(unit, 1, false);
        Due.is("not below 0", unit.count(1), 0);
        Due.is("not armed", unit.record(0, 8), 0);
        unit.set(VotedCharge.HOLD, 2);
        Calls.tickAll(unit, 2, true);
        Due.is("closed: 2 are left", unit.count(1), 2);
        Calls.tickAll(unit, 3, false);
        Due.is("open: 1 is left", unit.count(1), 1);
        Due.is("armed yet", unit.record(2, 8), 1);
        Due.is("the next one is not", unit.ifTick(0, 0, 0, false, 5), 0);
        Calls.tickAll(unit, 2, true);
        Due.is("closed again", unit.count(1), 2);
        Calls.tickAll(unit, 3, false);
        Calls.tickAll(unit, 4, false);
        Due.is("none is left", unit.count(1), 0);
        Due.is("not armed any more", unit.record(5, 8), 0);
        Due.is("nothing fires", Calls.tickAll(unit, 500, false), 0);
        Due.is("closed: it fires", Calls.tickAll(unit, 499, true), 1);
        unit = new VotedCharge();
        unit.set(VotedCharge.HOLD, 1);
        Calls.tickAll(unit, 0, true);
        Due.is("a hold of 1 is the tick alone", Calls.tickAll(unit, 500, false), 0);
    }

    private static void votes() {
        VotedCharge unit = new VotedCharge();
        Due.is("59 is not low", unit.ifTick(59, 60, 61, true, 3), 6);
        Due.is("none is high", unit.ifTick(59, 60, 61, true, 4), 0);
        unit.set(VotedCharge.FAR, 500);
        Due.is("149 is not high", unit.ifTick(150, 149, 59, true, 4), 1);
        Due.is("but low", unit.ifTick(150, 149, 59, true, 3), 3);
        unit.set(VotedCharge.LOW, 300);
        unit.set(VotedCharge.HIGH, 100);
        Due.is("high without low", unit.ifTick(299, 300, 100, true, 4), 7);
        Due.is("low", unit.ifTick(299, 300, 100, true, 3), 2);
        Due.is("high votes alone fire no stage", unit.ifTick(200, 200, 200, true, 0), 0);
        unit.set(VotedCharge.FAR, 40);
        Due.is("without a vote there is no low vote", unit.ifTick(400, 300, 300, true, 3), 6);
        Due.is("nor a high one", unit.ifTick(400, 300, 300, true, 4), 6);
        unit.tick(-400, -400, -400, true);
        Due.is("a speed below 0 is no vote", unit.ifTick(400, 400, 400, true, 3), 0);
        unit.set(VotedCharge.LOW, 1);
        Due.is("0 is not 1", new VotedCharge().ifTick(0, 0, 0, true, 3), 0);
    }

    private static void stageZero() {
        VotedCharge unit = new VotedCharge();
        Due.is("one low vote", unit.ifTick(60, 59, 59, true, 0), 0);
        Due.is("two low votes", unit.ifTick(60, 60, 59, true, 0), 1);
        Due.is("two others", unit.ifTick(59, 60, 60, true, 0), 1);
        Due.is("three low votes", unit.ifTick(60, 60, 60, true, 0), 1);
        Due.is("not armed", unit.ifTick(60, 60, 60, false, 0), 0);
        Due.is("two, and one is far", unit.ifTick(60, 60, 500, true, 0), 1);
        Due.is("it fires", unit.tick(60, 60, 59, true), 1);
        Due.is("but once", unit.tick(60, 61, 59, true), 0);
        Due.is("fired in", unit.stage(0, 0), 0);
    }

    private static void delays() {
        VotedCharge unit = new VotedCharge();
        Due.is("tick 0", Calls.tickAll(unit, 300, true), 1);
        Due.is("tick 1", Calls.tickAll(unit, 301, true), 0);
        Due.is("tick 2", Calls.tickAll(unit, 302, true), 2);
        Due.is("tick 3", Calls.tickAll(unit, 303, true), 0);
        Due.is("tick 4", Calls.tickAll(unit, 304, true), 4);
        Due.is("tick 5", Calls.tickAll(unit, 305, true), 0);
        Due.is("stage 0", unit.stage(0, 0), 0);
        Due.is("stage 1", unit.stage(1, 0), 2);
        Due.is("stage 2", unit.stage(2, 0), 4);
        unit = new VotedCharge();
        unit.set(VotedCharge.DELAY, 1);
        Calls.tickAll(unit, 60, true);
        Due.is("the votes are gone", Calls.tickAll(unit, -60, true), 0);
        Due.is("stage 1 waits for votes, not for its tick alone", Calls.tickAll(unit, 400, true), 2);
        Due.is("stage 2 one behind it", Calls.tickAll(unit, 401, true), 4);
    }

    private static void delayZero() {
        VotedCharge unit = new VotedCharge();
        unit.set(VotedCharge.DELAY, 0);
        Due.is("60 is low", unit.ifTick(60, 60, 60, true, 0), 3);
        Due.is("149 is low", unit.ifTick(149, 149, 149, true, 0), 3);
        Due.is("150 is high", unit.ifTick(150, 150, 150, true, 0), 7);
        Due.is("one is high", unit.ifTick(150, 149, 149, true, 0), 3);
        Due.is("two are high", unit.ifTick(150, 149, 150, true, 0), 7);
        Due.is("all at once", Calls.tickAll(unit, 150, true), 7);
        Due.is("stage 2 in the tick", unit.stage(2, 0), 0);
    }

    private static void delayChanged() {
        VotedCharge unit = new VotedCharge();
        unit.set(VotedCharge.DELAY, 20);
        Calls.tickAll(unit, 100, true);
        Due.is("20 ticks to wait", Calls.tickAll(unit, 101, true), 0);
        unit.set(VotedCharge.DELAY, 2);
        Due.is("2 ticks ago", Calls.tickAll(unit, 102, true), 2);
        unit = new VotedCharge();
        unit.set(VotedCharge.DELAY, 20);
        for (int tick = 0; tick < 20; tick++) {
            Due.is("tick " + tick, Calls.tickAll(unit, 100 + tick, true), tick == 0 ? 1 : 0);
        }
        Due.is("tick 20", Calls.tickAll(unit, 99, true), 2);
    }

    private static void stageTwo() {
        VotedCharge unit = new VotedCharge();
        unit.set(VotedCharge.DELAY, 0);
        unit.set(VotedCharge.LOW, 400);
        Due.is("high votes, but 1 is not fired", Calls.tickAll(unit, 300, true), 0);
        unit.set(VotedCharge.LOW, 60);
        unit.bar(0, true);
        Due.is("0 is barred, 1 and 2 fire", Calls.tickAll(unit, 301, true), 6);
        unit = new VotedCharge();
        unit.set(VotedCharge.DELAY, 0);
        unit.bar(2, true);
        Due.is("2 is barred", Calls.tickAll(unit, 500, true), 3);
        unit.bar(2, false);
        unit.set(VotedCharge.LOW, 2000);
        Due.is("2 needs no low votes", Calls.tickAll(unit, 499, true), 4);
    }

    private TickTest() {
    }
}
