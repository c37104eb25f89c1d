/** Promises 18 to 20: undo, save, restore. */
public final class HistoryTest {
    public static void main(String[] args) {
        undo();
        undoOfEachChange();
        undoOfSix();
        undoLeavesPadAndSlots();
        changesWithoutDifference();
        noChanges();
        save();
        restore();
        restoreKeepsHistory();
        slotsKeepWhatTheyHave();
        Due.end();
    }

    private static void same(String call, String one, String two) {
        Due.is(call + ": the same state", one.equals(two) ? 1 : 0, 1);
    }

    private static void undo() {
        VotedCharge unit = new VotedCharge();
        Due.is("undo of nothing", unit.undo(), -5);
        unit.set(VotedCharge.LOW, 100);
        Due.is("undo", unit.undo(), 0);
        Due.is("as it was", unit.count(8), 60);
        Due.is("undo again", unit.undo(), -5);
        Due.is("nothing to undo", unit.count(15), 0);
        unit.set(VotedCharge.LOW, 100);
        unit.set(VotedCharge.LOW, 101);
        unit.set(VotedCharge.LOW, 102);
        Due.is("undo one", unit.undo(), 2);
        Due.is("101", unit.count(8), 101);
        unit.set(VotedCharge.LOW, 103);
        Due.is("three again", unit.count(15), 3);
        Due.is("undo", unit.undo(), 2);
        Due.is("101 again", unit.count(8), 101);
        Due.is("undo", unit.undo(), 1);
        Due.is("100", unit.count(8), 100);
    }

    private static void undoOfEachChange() {
        VotedCharge unit = new VotedCharge();
        unit.set(VotedCharge.STUCK, 2);
        unit.tick(1, 1, 3, false);
        unit.tick(90, 91, 3, true);
        unit.save(0);
        Due.is("2 is stuck", unit.count(2), 3);
        String before = Calls.look(unit);
        unit.set(VotedCharge.FAR, 1);
        unit.undo();
        same("set", Calls.look(unit), before);
        unit.tick(400, 400, 400, false);
        unit.undo();
        same("tick", Calls.look(unit), before);
        unit.bar(1, true);
        unit.undo();
        same("bar", Calls.look(unit), before);
        unit.service();
        unit.undo();
        same("service", Calls.look(unit), before);
        Calls.putAll(unit, "1,2,3;4,5,6c");
        unit.run();
        unit.undo();
        same("run", Calls.look(unit), before);
        unit.service();
        String serviced = Calls.look(unit);
        unit.test(2);
        unit.undo();
        same("test", Calls.look(unit), serviced);
        unit.restore(0);
        same("restored", Calls.look(unit), before);
        unit.undo();
        same("restore", Calls.look(unit), serviced);
    }

    private static void undoOfSix() {
        VotedCharge unit = new VotedCharge();
        for (int i = 1; i <= 9; i++) {
            unit.set(VotedCharge.HIGH, i);
            Due.is("how many", unit.count(15), Math.min(i, 6));
        }
        for (int i = 5; i >= 0; i--) {
            Due.is("undo", unit.undo(), i);
            Due.is("the setting", unit.count(9), 3 + i);
        }
        Due.is("the older ones are dropped", unit.undo(), -5);
        Due.is("the setting stays", unit.count(9), 3);
        for (int i = 0; i < 20; i++) {
            unit.tick(i % 2, 0, 1, i % 3 == 0);
        }
        for (int i = 5; i >= 0; i--) {
            Due.is("undo", unit.undo(), i);
            Due.is("ticks", unit.count(0), 14 + i);
            Due.is("the last one of the recorder", unit.record(11, 0), 13 + i);
        }
    }

    private static void undoLeavesPadAndSlots() {
        VotedCharge unit = new VotedCharge();
        unit.set(VotedCharge.LOW, 70);
        unit.put('1');
        unit.save(1);
        Due.is("undo", unit.undo(), 0);
        Due.is("the pad stays", unit.count(14), 1);
        Due.is("the slot stays", unit.restore(1), 0);
        Due.is("what was saved", unit.count(8), 70);
        Due.is("undo of the restore", unit.undo(), 0);
        Due.is("as before", unit.count(8), 60);
    }

    private static void changesWithoutDifference() {
        VotedCharge unit = new VotedCharge();
        unit.set(VotedCharge.LOW, 60);
        Due.is("set to the same", unit.count(15), 1);
        unit.test(0);
        Due.is("test of a new sensor", unit.count(15), 2);
        unit.service();
        Due.is("service of a new unit", unit.count(15), 3);
        unit.save(0);
        Due.is("save is no change", unit.count(15), 3);
        unit.restore(0);
        Due.is("restore of the same", unit.count(15), 4);
        unit.undo();
        unit.undo();
        unit.undo();
        Due.is("undo is no change", unit.count(15), 1);
    }

    private static void noChanges() {
        VotedCharge unit = new VotedCharge();
        unit.put('1');
        unit.fault();
        unit.wipe();
        unit.ifTick(0, 0, 0, true, 0);
        unit.leastReading(0, true);
        unit.ticksTo(0, 100);
        unit.save(0);
        unit.set(0, 0);
        unit.tick(501, 0, 0, true);
        unit.bar(0, false);
        unit.test(3);
        unit.run();
        unit.restore(1);
        unit.restore(2);
        Due.is("none was a change", unit.count(15), 0);
    }

    private static void save() {
        VotedCharge unit = new VotedCharge();
        int[] wrong = {-1, 2, Integer.MIN_VALUE, Integer.MAX_VALUE};
        for (int slot : wrong) {
            Due.is("save in no slot", unit.save(slot), -2);
            Due.is("restore of no slot", unit.restore(slot), -2);
        }
        Due.is("save of a new unit", unit.save(0), 0);
        Calls.tickAll(unit, 1, false);
        Calls.tickAll(unit, 2, false);
        Due.is("save in 1", unit.save(1), 2);
        Calls.tickAll(unit, 1, false);
        Due.is("restore 0", unit.restore(0), 0);
        Due.is("restore 1", unit.restore(1), 2);
        Calls.tickAll(unit, 1, false);
        Due.is("save over it", unit.save(1), 3);
        unit.undo();
        Due.is("restore what was saved last", unit.restore(1), 3);
        Due.is("the other one stays", unit.restore(0), 0);
    }

    private static void restore() {
        VotedCharge unit = new VotedCharge();
        Due.is("nothing was saved in 0", unit.restore(0), -5);
        unit.save(1);
        Due.is("nothing in 0 yet", unit.restore(0), -5);
        for (int setting = 0; setting < 6; setting++) {
            unit.set(setting, 20);
        }
        unit.bar(1, true);
        unit.tick(-2, 1, 2, false);
        unit.tick(25, 24, 60, true);
        unit.tick(-2, 30, 60, false);
        String before = Calls.look(unit);
        Due.is("save", unit.save(0), 3);
        unit.service();
        unit.bar(1, false);
        unit.test(2);
        unit.set(VotedCharge.FAR, 40);
        Calls.tickAll(unit, 300, true);
        Due.is("restore", unit.restore(0), 3);
        same("restore", Calls.look(unit), before);
        Calls.tickAll(unit, 300, true);
        Due.is("the slot keeps it", unit.restore(0), 3);
        same("restore again", Calls.look(unit), before);
        unit.restore(1);
        same("restore of a new unit", Calls.look(unit), Calls.look(new VotedCharge()));
    }

    private static void restoreKeepsHistory() {
        VotedCharge unit = new VotedCharge();
        unit.save(0);
        unit.set(VotedCharge.LOW, 1);
        unit.set(VotedCharge.LOW, 2);
        unit.put('5');
        unit.restore(0);
        Due.is("restore is one change more", unit.count(15), 3);
        Due.is("the pad stays", unit.count(14), 1);
        unit.undo();
        Due.is("undone", unit.count(8), 2);
        unit.undo();
        Due.is("and one more", unit.count(8), 1);
    }

    private static void slotsKeepWhatTheyHave() {
        VotedCharge unit = new VotedCharge();
        Calls.tickAll(unit, 90, true);
        String before = Calls.look(unit);
        unit.save(0);
        unit.restore(0);
        for (int i = 0; i < 14; i++) {
            unit.tick(i, -i, 400, false);
        }
        unit.bar(2, true);
        unit.restore(0);
        same("the slot is not the unit itself", Calls.look(unit), before);
    }

    private HistoryTest() {
    }
}
