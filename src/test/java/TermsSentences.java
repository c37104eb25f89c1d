/** The sentences of "Terms" and of "Settings". */
final class TermsSentences {
    private static final int[] LEAST = {1, 1, 1, 2, 1, 0};
    private static final int[] MOST = {2000, 2000, 50, 50, 500, 20};
    private static final int[] FIRST = {60, 150, 5, 8, 40, 2};
    /** 80 characters, without a fault. */
    static final String FULL_PAD = "0,0,0;1,1,1;0,0,0;1,1,1;0,0,0;1,1,1;0,0,0;1,1,1;0,0,0;1,1,1;0,0,0;1,1,1;99,99,9c";
    private static final int ERROR_CALLS = 44;

    private TermsSentences() {
    }

    static void check(Document document) {
        document.section("Terms");
        errorCodes(document);
        orderOfErrors(document);
        errorsChangeNothing(document);
        none(document);
        numberedFromZero(document);
        raised(document);
        sets(document);
        divisions(document);
        document.section("Settings");
        firstValues(document);
        lowAndHigh(document);
        holdAndStuck(document);
        far(document);
        delay(document);
    }

    private static void errorCodes(Document document) {
        document.sentence("CONVENTIONS. A method that fails returns one of the error codes NO_SUCH (-1), "
            + "BAD_VALUE (-2), BAD_TEXT (-3), TOO_MANY (-4) and NOT_POSSIBLE (-5);");
        VotedCharge unit = new VotedCharge();
        Due.is("no such sensor", unit.test(3), -1);
        Due.is("no such value", unit.set(0, 0), -2);
        Due.is("no such text", unit.run(), -3);
        Calls.putAll(unit, FULL_PAD);
        Due.is("too many characters", unit.put('1'), -4);
        Due.is("not possible", unit.undo(), -5);
    }

    private static void orderOfErrors(Document document) {
        document.sentence("it names its errors in the order in which they are checked, and the first one that applies "
            + "is returned.");
        VotedCharge unit = new VotedCharge();
        Due.is("sensor: no such sensor, then what", unit.sensor(3, 5), -1);
        Due.is("sensor: below", unit.sensor(-1, -1), -1);
        Due.is("stage: no such stage, then what", unit.stage(3, 2), -1);
        Due.is("stage: below", unit.stage(-1, -1), -1);
        Due.is("record: no such tick, then what", unit.record(0, 10), -1);
        Due.is("record: below", unit.record(-1, -1), -1);
        Due.is("ticksTo: no such stage, then reading", unit.ticksTo(3, 501), -1);
        Due.is("ticksTo: below", unit.ticksTo(-1, -501), -1);
        Due.is("restore: no such slot, then nothing saved", unit.restore(2), -2);
        Calls.tickAll(unit, 100, true);
        Due.is("bar: no such stage, then not possible", unit.bar(3, true), -1);
        Due.is("test: no such sensor, then not possible", unit.test(3), -1);
        Calls.putAll(unit, FULL_PAD);
        Due.is("put: no character, then too many", unit.put(0), -2);
        Due.is("put: a wrong code, then too many", unit.put(127), -2);
        Due.is("put: a bit above, then too many", unit.put(0x310031), -2);
        unit = Calls.behindTicks(100000);
        Due.is("tick: a wrong reading, then too many", unit.tick(0, 0, 501, true), -2);
        Due.is("tick: too many", unit.tick(0, 0, 500, true), -4);
        Calls.putAll(unit, "0,0,0;");
        Due.is("run: a fault, then too many", unit.run(), -3);
        Calls.putAll(unit, "0,0,0");
        Due.is("run: too many", unit.run(), -4);
    }

    private static VotedCharge newUnit(int state) {
        VotedCharge unit = new VotedCharge();
        if (state == 1) {
            unit.set(VotedCharge.LOW, 50);
            unit.tick(1, 2, -3, false);
            unit.save(1);
            unit.bar(2, true);
            Calls.tickAll(unit, 100, true);
            Calls.putAll(unit, "1,2");
        } else if (state == 2) {
            for (int i = 0; i < 8; i++) {
                unit.tick(i, 9, -i, true);
            }
            unit.save(0);
            Calls.tickAll(unit, 200, true);
            Calls.putAll(unit, FULL_PAD);
        }
        return unit;
    }

    private static int errorCall(VotedCharge unit, int call) {
        switch (call) {
            case 0: return unit.set(-1, 5);
            case 1: return unit.set(6, 5);
            case 2: return unit.set(0, 0);
            case 3: return unit.set(1, 2001);
            case 4: return unit.set(2, 51);
            case 5: return unit.set(3, 1);
            case 6: return unit.set(4, 501);
            case 7: return unit.set(5, -1);
            case 8: return unit.tick(501, 0, 0, true);
            case 9: return unit.tick(0, -501, 0, true);
            case 10: return unit.tick(0, 0, 501, false);
            case 11: return unit.bar(-1, true);
            case 12: return unit.bar(3, true);
            case 13: return unit.bar(1, false);
            case 14: return unit.test(-1);
            case 15: return unit.test(3);
            case 16: return unit.sensor(3, 0);
            case 17: return unit.sensor(0, 5);
            case 18: return unit.stage(3, 0);
            case 19: return unit.stage(0, 2);
            case 20: return unit.record(12, 0);
            case 21: return unit.record(-1, 0);
            case 22: return unit.record(unit.count(5) - 1, 10);
            case 23: return unit.count(-1);
            case 24: return unit.count(16);
            case 25: return unit.ifTick(501, 0, 0, true, 0);
            case 26: return unit.ifTick(100, 100, 100, true, 6);
            case 27: return unit.ifTick(100, 100, 100, true, -1);
            case 28: return unit.leastReading(3, true);
            case 29: return unit.leastReading(-1, true);
            case 30: return unit.ticksTo(3, 100);
            case 31: return unit.ticksTo(0, 501);
            case 32: return unit.ticksTo(0, -501);
            case 33: return unit.put(0);
            case 34: return unit.put(32);
            case 35: return unit.put(0x310031);
            case 36: return unit.put(-1);
            case 37: return unit.save(2);
            case 38: return unit.save(-1);
            case 39: return unit.restore(2);
            case 40: return unit.restore(-1);
            default: return stateErrorCall(unit, call);
        }
    }

    /** Those that are errors in some states alone. */
    private static int stateErrorCall(VotedCharge unit, int call) {
        if (call == 41) {
            return unit.count(14) == 80 ? unit.put('1') : unit.run();
        }
        if (call == 42) {
            return unit.count(15) == 0 ? unit.undo() : unit.test(0);
        }
        return unit.count(3) == 0 ? unit.restore(0) : unit.bar(0, true);
    }

    private static void errorsChangeNothing(Document document) {
        document.sentence("A call that returns an error changes nothing.");
        for (int state = 0; state < 3; state++) {
            String due = Calls.holdings(newUnit(state));
            for (int call = 0; call < ERROR_CALLS; call++) {
                VotedCharge unit = newUnit(state);
                int answer = errorCall(unit, call);
                Due.is("call " + call + " is an error", answer >= -5 && answer <= -1 ? 1 : 0, 1);
                Due.same("state " + state + " behind call " + call, Calls.holdings(unit), due);
            }
        }
    }

    private static void none(Document document) {
        document.sentence("NONE (-6) is not an error; it is returned only if no error applies.");
        VotedCharge unit = new VotedCharge();
        Due.is("a stage that is not fired", unit.stage(2, 0), -6);
        Due.is("of no such stage", unit.stage(3, 0), -1);
        Due.is("ahead of the first tick", unit.sensor(2, 4), -6);
        Due.is("of no such sensor", unit.sensor(3, 4), -1);
        Due.is("no event", unit.count(6), -6);
        Due.is("no least reading", unit.leastReading(2, true), -6);
        Due.is("of no such stage", unit.leastReading(3, true), -1);
        Due.is("not behind 50 ticks", unit.ticksTo(0, 0), -6);
        Due.is("of no such stage", unit.ticksTo(3, 0), -1);
        Due.is("of no reading", unit.ticksTo(0, -501), -2);
        Calls.putAll(unit, "1,2,3");
        Due.is("no fault", unit.fault(), -6);
    }

    private static void numberedFromZero(Document document) {
        document.sentence("Everything is numbered from 0.");
        VotedCharge unit = new VotedCharge();
        Due.is("the setting 0 is LOW", unit.set(0, 61), 60);
        Calls.putAll(unit, "x");
        Due.is("the character 0", unit.fault(), 0);
        Due.is("the slot 0", unit.save(0), 0);
        Due.is("the stage 0 fires", unit.tick(70, 80, 90, true), 1);
        Due.is("in the tick 0", unit.stage(0, 0), 0);
        Due.is("it is the event", unit.count(6), 0);
        Due.is("the place 0 has the tick 0", unit.record(0, 0), 0);
        Due.is("the sensor 0", unit.sensor(0, 4), 100070);
        Due.is("the sensor 2", unit.sensor(2, 4), 100090);
        Due.is("the slot 0 again", unit.restore(0), 0);
    }

    private static void raised(Document document) {
        document.sentence("Numbers that can be below 0 are returned with 100000 more, where it is told.");
        VotedCharge unit = new VotedCharge();
        unit.set(VotedCharge.FAR, 500);
        unit.tick(-3, -500, 0, false);
        Due.is("an offset", unit.sensor(0, 0), 99999);
        Due.is("an offset of 0", unit.sensor(2, 0), 100000);
        Due.is("a speed", unit.sensor(1, 1), 99500);
        Due.is("a reading", unit.sensor(1, 4), 99500);
        Due.is("a recorded reading", unit.record(0, 2), 99500);
        Due.is("a recorded middle", unit.record(0, 5), 99997);
        Due.is("a middle", unit.ifTick(-500, -500, -500, true, 1), 99501);
        unit.set(VotedCharge.LOW, 1);
        Due.is("the tick is not", unit.record(0, 0), 0);
        Due.is("how many ticks are not", unit.ticksTo(0, 100), 1);
        Due.is("the least reading is", unit.leastReading(0, true), 100005);
    }

    private static void sets(Document document) {
        document.sentence("Sets are bit masks.");
        VotedCharge unit = new VotedCharge();
        Due.is("barred: 2", unit.bar(2, true), 4);
        Due.is("barred: 0 and 2", unit.bar(0, true), 5);
        Due.is("barred: 0, 1 and 2", unit.bar(1, true), 7);
        Due.is("barred: 1 and 2", unit.bar(0, false), 6);
        Due.is("barred: 1", unit.bar(2, false), 2);
        Due.is("barred: none", unit.bar(1, false), 0);
        for (int votes = 0; votes < 8; votes++) {
            unit = Calls.withVotes(votes);
            unit.set(VotedCharge.FAR, 500);
            Due.is("low votes", unit.ifTick(60, 61, 62, true, 3), votes);
            Due.is("high votes", unit.ifTick(150, 151, 152, true, 4), votes);
        }
        unit = new VotedCharge();
        unit.set(VotedCharge.DELAY, 0);
        Due.is("all stages", unit.ifTick(150, 151, 152, true, 0), 7);
        Due.is("the stages 0 and 1", unit.ifTick(60, 61, 62, true, 0), 3);
        Due.is("no stage", unit.ifTick(60, 61, 62, false, 0), 0);
    }

    private static void divisions(Document document) {
        document.sentence("Divisions are rounded towards 0.");
        VotedCharge unit = new VotedCharge();
        unit.set(VotedCharge.FAR, 500);
        unit.tick(-5, 5, -9, true);
        int[][] due = {{-5, 5, -9}, {-4, 4, -7}, {-3, 3, -6}, {-2, 2, -5}, {-1, 1, -4}, {0, 0, -3}, {0, 0, -2},
            {0, 0, -1}, {0, 0, 0}};
        for (int[] row : due) {
            for (int sensor = 0; sensor < 3; sensor++) {
                Due.is("the speed of " + sensor, unit.sensor(sensor, 1), 100000 + row[sensor]);
            }
            Calls.tickAll(unit, 0, true);
        }
    }

    private static void firstValues(Document document) {
        document.sentence("(In parentheses: range; first value.)");
        for (int setting = 0; setting < 6; setting++) {
            Due.is("first value", new VotedCharge().count(8 + setting), FIRST[setting]);
            Due.is("the value ahead of a first one", new VotedCharge().set(setting, MOST[setting]), FIRST[setting]);
        }
    }

    private static void range(int setting) {
        VotedCharge unit = new VotedCharge();
        Due.is("one below the least", unit.set(setting, LEAST[setting] - 1), -2);
        Due.is("one above the greatest", unit.set(setting, MOST[setting] + 1), -2);
        Due.is("it stays", unit.count(8 + setting), FIRST[setting]);
        Due.is("the least", unit.set(setting, LEAST[setting]), FIRST[setting]);
        Due.is("it is that", unit.count(8 + setting), LEAST[setting]);
        Due.is("the greatest", unit.set(setting, MOST[setting]), LEAST[setting]);
        Due.is("it is that, too", unit.count(8 + setting), MOST[setting]);
    }

    private static void lowAndHigh(Document document) {
        document.sentence("LOW (1 to 2000; 60) and HIGH (1 to 2000; 150), speeds.");
        range(VotedCharge.LOW);
        range(VotedCharge.HIGH);
        VotedCharge unit = new VotedCharge();
        unit.set(VotedCharge.LOW, 1);
        unit.set(VotedCharge.HIGH, 1);
        unit.tick(5, 6, 6, true);
        for (int i = 0; i < 3; i++) {
            Calls.tickAll(unit, 0, true);
        }
        Due.is("a speed of 1 is low at 1", unit.ifTick(0, 0, 0, true, 3), 7);
        Due.is("a speed of 1 is high at 1", unit.ifTick(0, 0, 0, true, 4), 7);
        Calls.tickAll(unit, 1, true);
        Due.is("a speed of 1", unit.sensor(0, 1), 100001);
        Due.is("a speed of 0 is not low at 1", unit.ifTick(0, 0, 0, true, 3), 6);
        Due.is("a speed of 0 is not high at 1", unit.ifTick(0, 0, 0, true, 4), 6);
        unit = new VotedCharge();
        unit.set(VotedCharge.LOW, 2000);
        unit.set(VotedCharge.HIGH, 2000);
        for (int i = 0; i < 5; i++) {
            Calls.tickAll(unit, 500, true);
        }
        Due.is("the speed", unit.sensor(1, 1), 101947);
        Due.is("a speed of 1999 is not low at 2000", unit.ifTick(297, 296, 297, true, 3), 5);
        Due.is("a speed of 1999 is not high at 2000", unit.ifTick(296, 296, 297, true, 4), 4);
        Due.is("two are: it fires", unit.ifTick(297, 296, 297, true, 0), 1);
        Due.is("one is: it does not", unit.ifTick(296, 296, 297, true, 0), 0);
    }

    private static void holdAndStuck(Document document) {
        document.sentence("HOLD (1 to 50; 5) and STUCK (2 to 50; 8), ticks.");
        range(VotedCharge.HOLD);
        range(VotedCharge.STUCK);
        for (int hold : new int[] {1, 2, 5, 49, 50}) {
            VotedCharge unit = new VotedCharge();
            unit.set(VotedCharge.HOLD, hold);
            Calls.tickAll(unit, 0, true);
            for (int i = 1; i < hold; i++) {
                Due.is("armed " + i + " ticks behind", unit.ifTick(0, 0, 0, false, 5), 1);
                Calls.tickAll(unit, i % 2, false);
            }
            Due.is("left", unit.count(1), 1);
            Due.is("not armed " + hold + " ticks behind", unit.ifTick(0, 0, 0, false, 5), 0);
        }
        for (int stuck : new int[] {2, 3, 8, 49, 50}) {
            VotedCharge unit = new VotedCharge();
            unit.set(VotedCharge.STUCK, stuck);
            for (int i = 1; i < stuck; i++) {
                unit.tick(4, i % 2, -i % 3, true);
            }
            Due.is("not stuck behind " + (stuck - 1), unit.count(2) & 1, 1);
            unit.tick(4, stuck % 2, -stuck % 3, true);
            Due.is("stuck behind " + stuck, unit.count(2) & 1, 0);
        }
    }

    private static void far(Document document) {
        document.sentence("FAR (1 to 500; 40), an acceleration.");
        range(VotedCharge.FAR);
        for (int far : new int[] {1, 40, 499, 500}) {
            VotedCharge unit = new VotedCharge();
            unit.set(VotedCharge.FAR, far);
            Due.is("not far above", unit.ifTick(0, 0, far, true, 2), 7);
            Due.is("not far below", unit.ifTick(-far, 0, 0, true, 2), 7);
            Due.is("far above", unit.ifTick(-1, -1, far, true, 2), 3);
            Due.is("far below", unit.ifTick(-far, 1, 1, true, 2), 6);
        }
    }

    private static void delay(Document document) {
        document.sentence("DELAY (0 to 20; 2), ticks.");
        range(VotedCharge.DELAY);
        for (int delay : new int[] {0, 1, 2, 19, 20}) {
            VotedCharge unit = new VotedCharge();
            unit.set(VotedCharge.DELAY, delay);
            for (int tick = 0; tick <= 2 * delay; tick++) {
                int due = (tick == 0 ? 1 : 0) + (tick == delay ? 2 : 0) + (tick == 2 * delay ? 4 : 0);
                Due.is("delay " + delay + ", tick " + tick, Calls.tickAll(unit, 150 + tick % 2, true), due);
            }
        }
    }
}
