/** The sentences of the promises 18 to 20: undo, save, restore. */
final class HistorySentences {
    private static final int[] NO_SLOT = {-1, 2, 3, Integer.MIN_VALUE, Integer.MAX_VALUE};

    private HistorySentences() {
    }

    static void check(Document document) {
        document.section("Promise 18");
        undo(document);
        undoKeeps(document);
        sixStates(document);
        noDifference(document);
        dropped(document);
        undoAnswers(document);
        document.section("Promise 19");
        save(document);
        overwrites(document);
        saveAnswers(document);
        document.section("Promise 20");
        restore(document);
        restoreIsAChange(document);
        restoreAnswers(document);
    }

    /** Has something of everything: settings, offsets, speeds, a vote less, a bar, a stage, a recorder, an arming. */
    private static VotedCharge busy() {
        VotedCharge unit = new VotedCharge();
        unit.set(VotedCharge.DELAY, 3);
        unit.bar(2, true);
        for (int i = 0; i < 10; i++) {
            unit.tick(-i % 4, 2, i % 3, i % 4 == 1);
        }
        Calls.tickAll(unit, 90, true);
        return unit;
    }

    /** One change of each kind, as far as the state lets it. */
    private static int change(VotedCharge unit, int kind) {
        switch (kind) {
            case 0: return unit.set(VotedCharge.LOW, 500);
            case 1: return unit.tick(91, 40, -500, false);
            case 2: return unit.bar(1, true);
            case 3: return unit.bar(2, false);
            case 4: return unit.service();
            case 5: return Calls.putAll(unit, "1,2,3;91,91,91;4,5,6c") < 0 ? -9 : unit.run();
            case 6: return unit.restore(1);
            default: return unit.test(1);
        }
    }

    private static void undo(Document document) {
        document.sentence("Undoes the latest change: everything except the pad, the slots and the history is as it was "
            + "before it.");
        String due = Calls.look(busy());
        for (int kind = 0; kind < 7; kind++) {
            VotedCharge unit = busy();
            if (kind == 6) {
                unit = new VotedCharge();
                unit.save(1);
                Calls.tickAll(unit, 77, true);
            }
            String before = Calls.look(unit);
            Due.is("the change " + kind, change(unit, kind) >= 0 ? 1 : 0, 1);
            Due.is("makes a difference", before.equals(Calls.look(unit)) ? 1 : 0, 0);
            unit.undo();
            Due.same("the change " + kind + " undone", Calls.look(unit), before);
        }
        Due.same("each time from the same state", Calls.look(busy()), due);
        VotedCharge unit = new VotedCharge();
        Calls.tickAll(unit, 9, true);
        unit.set(VotedCharge.STUCK, 2);
        unit.tick(7, 9, 8, false);
        String before = Calls.look(unit);
        Due.is("a test", change(unit, 7), 1);
        unit.undo();
        Due.same("the test undone", Calls.look(unit), before);
    }

    private static void undoKeeps(Document document) {
        VotedCharge unit = new VotedCharge();
        unit.set(VotedCharge.LOW, 70);
        unit.save(1);
        Calls.putAll(unit, "1,2,3");
        unit.undo();
        Due.is("the pad stays", unit.count(14), 5);
        unit.undo();
        Due.is("the slot stays", unit.restore(1), 0);
        Due.is("what was saved", unit.count(8), 70);
        Due.is("the pad stays: it runs", unit.run(), 0);
        Due.is("the pad is empty", unit.count(14), 0);
        unit.undo();
        Due.is("the pad does not come back", unit.count(14), 0);
        unit.undo();
        Due.is("the setting ahead of the restore", unit.count(8), 60);
        Due.is("no change is left", unit.undo(), -5);
    }

    private static void sixStates(Document document) {
        document.sentence("A history of at most 6 states is kept:");
        for (int changes = 0; changes <= 9; changes++) {
            VotedCharge unit = new VotedCharge();
            for (int i = 1; i <= changes; i++) {
                unit.set(VotedCharge.HIGH, 200 + i);
            }
            int kept = Math.min(changes, 6);
            Due.is(changes + " changes", unit.count(15), kept);
            for (int left = kept - 1; left >= 0; left--) {
                Due.is("undo", unit.undo(), left);
                int due = changes - kept + left;
                Due.is("the setting", unit.count(9), due == 0 ? 150 : 200 + due);
            }
            Due.is("one more", unit.undo(), -5);
        }
        document.sentence("each method that is a change, and returns no error, records the state before it");
        for (int kind = 0; kind < 8; kind++) {
            VotedCharge unit = new VotedCharge();
            unit.save(1);
            unit.bar(2, true);
            Due.is("the change " + kind, change(unit, kind) >= 0 ? 1 : 0, 1);
            Due.is("it is recorded", unit.count(15), 2);
        }
        VotedCharge unit = new VotedCharge();
        Calls.tickAll(unit, 60, true);
        int[] errors = {unit.set(0, 0), unit.tick(501, 0, 0, true), unit.bar(0, true), unit.test(0), unit.run(),
            unit.restore(0), unit.restore(2), unit.put(0), unit.save(2)};
        for (int error : errors) {
            Due.is("an error", error < 0 ? 1 : 0, 1);
        }
        Due.is("none is recorded", unit.count(15), 1);
        unit.put('1');
        unit.wipe();
        unit.fault();
        unit.save(0);
        unit.ifTick(0, 0, 0, true, 0);
        unit.leastReading(0, true);
        unit.ticksTo(0, 0);
        Due.is("what is no change is not recorded", unit.count(15), 1);
    }

    private static void noDifference(Document document) {
        document.sentence("(also if nothing is different then);");
        VotedCharge unit = new VotedCharge();
        unit.set(VotedCharge.LOW, 60);
        Due.is("set to the same", unit.count(15), 1);
        unit.test(2);
        Due.is("test of a new sensor", unit.count(15), 2);
        unit.service();
        Due.is("service of a new unit", unit.count(15), 3);
        unit.save(0);
        unit.restore(0);
        Due.is("restore of the same", unit.count(15), 4);
        Due.is("undo", unit.undo(), 3);
        Due.is("undo", unit.undo(), 2);
        Due.is("undo", unit.undo(), 1);
        Due.is("undo", unit.undo(), 0);
    }

    private static void dropped(Document document) {
        document.sentence("when one more is recorded, the oldest one is dropped.");
        VotedCharge unit = new VotedCharge();
        for (int i = 0; i < 7; i++) {
            Calls.tickAll(unit, i, true);
        }
        Due.is("six", unit.count(15), 6);
        unit.undo();
        unit.undo();
        Calls.tickAll(unit, 90, true);
        Due.is("five: none is dropped, none comes back", unit.count(15), 5);
        for (int ticks = 5; ticks >= 1; ticks--) {
            unit.undo();
            Due.is("ticks", unit.count(0), ticks);
        }
        Due.is("the state ahead of the first tick is dropped", unit.undo(), -5);
        Due.is("one tick", unit.count(0), 1);
        for (int i = 0; i < 60; i++) {
            Calls.tickAll(unit, i % 2, true);
        }
        for (int ticks = 60; ticks >= 55; ticks--) {
            unit.undo();
            Due.is("ticks", unit.count(0), ticks);
            Due.is("their last reading", unit.record(11, 1), 100000 + ticks % 2);
        }
        Due.is("no more", unit.undo(), -5);
    }

    private static void undoAnswers(Document document) {
        document.sentence("Returns how many changes can be undone then;");
        VotedCharge unit = new VotedCharge();
        unit.service();
        unit.service();
        Due.is("one", unit.undo(), 1);
        Due.is("none", unit.undo(), 0);
        document.sentence("NOT_POSSIBLE if there is none.");
        Due.is("none is left", unit.undo(), -5);
        Due.is("of a new unit", new VotedCharge().undo(), -5);
        unit.service();
        Due.is("there is one again", unit.undo(), 0);
        Due.is("undo is not undone", unit.undo(), -5);
    }

    private static void save(Document document) {
        document.sentence("Saves everything except the pad, the history and the slots in a slot,");
        VotedCharge unit = busy();
        String due = Calls.look(unit);
        unit.save(1);
        unit.save(0);
        Calls.putAll(unit, "9,9");
        int length = unit.count(14);
        unit.service();
        unit.bar(2, false);
        unit.test(1);
        unit.set(VotedCharge.FAR, 500);
        Calls.tickAll(unit, 500, true);
        int undoable = unit.count(15);
        unit.restore(1);
        Due.same("everything", Calls.look(unit), due);
        Due.is("the pad is not saved", unit.count(14), length);
        Due.is("nor is the history", unit.count(15), Math.min(undoable + 1, 6));
        unit.undo();
        Due.is("the slots are not saved: 0 is as it was", unit.restore(0), 11);
        VotedCharge other = new VotedCharge();
        other.save(0);
        other.restore(0);
        Due.is("nothing was saved in 1 then", other.restore(1), -5);
        Calls.tickAll(other, 1, false);
        other.save(1);
        other.restore(0);
        Due.is("the slot 1 stays, though it was empty when 0 was saved", other.restore(1), 1);
    }

    private static void overwrites(Document document) {
        document.sentence("and overwrites what was saved there.");
        VotedCharge unit = new VotedCharge();
        unit.save(0);
        unit.save(1);
        Calls.tickAll(unit, 1, false);
        unit.save(0);
        Calls.tickAll(unit, 2, false);
        Due.is("0 is overwritten", unit.restore(0), 1);
        Due.is("1 is not", unit.restore(1), 0);
        unit.save(0);
        Due.is("0 is again", unit.restore(0), 0);
    }

    private static void saveAnswers(Document document) {
        document.sentence("- `slot`: 0 or 1");
        VotedCharge unit = new VotedCharge();
        Due.is("0", unit.save(0), 0);
        Due.is("1", unit.save(1), 0);
        document.sentence("Returns how many ticks have passed;");
        for (int ticks = 1; ticks <= 13; ticks++) {
            Calls.tickAll(unit, ticks, false);
            Due.is("ticks", unit.save(ticks % 2), ticks);
        }
        unit.service();
        Due.is("also behind a service", unit.save(0), 13);
        document.sentence("BAD_VALUE if there is no such slot.");
        for (int slot : NO_SLOT) {
            Due.is("slot " + slot, unit.save(slot), -2);
        }
    }

    private static void restore(Document document) {
        document.sentence("Restores what was saved last in a slot, which keeps it.");
        VotedCharge unit = busy();
        String due = Calls.glance(unit);
        unit.save(1);
        for (int i = 0; i < 3; i++) {
            Calls.tickAll(unit, 100 + i, false);
            unit.bar(2, i % 2 == 1);
            unit.set(VotedCharge.HOLD, 50);
            Due.is("restore", unit.restore(1), 11);
            Due.same("restored", Calls.glance(unit), due);
        }
        unit.service();
        Due.is("the next tick is as it would have been", unit.restore(1), 11);
        Due.is("the same for", unit.ifTick(91, 91, 91, false, 2), busy().ifTick(91, 91, 91, false, 2));
        Calls.tickAll(unit, 91, false);
        unit.save(1);
        unit.undo();
        Due.is("saved last, though the tick was undone", unit.restore(1), 12);
    }

    private static void restoreIsAChange(Document document) {
        document.sentence("This is a change.");
        VotedCharge unit = new VotedCharge();
        unit.save(0);
        Calls.tickAll(unit, 90, true);
        String before = Calls.look(unit);
        unit.restore(0);
        Due.is("two changes", unit.count(15), 2);
        Due.is("undone", unit.undo(), 1);
        Due.same("as ahead of it", Calls.look(unit), before);
        unit.undo();
        Due.is("the slot keeps it still", unit.restore(0), 0);
    }

    private static void restoreAnswers(Document document) {
        document.sentence("- `slot`: 0 or 1");
        VotedCharge unit = new VotedCharge();
        unit.save(0);
        Calls.tickAll(unit, 1, false);
        unit.save(1);
        Due.is("0", unit.restore(0), 0);
        Due.is("1", unit.restore(1), 1);
        Calls.tickAll(unit, 2, false);
        document.sentence("Returns how many ticks have passed then;");
        Due.is("0", unit.restore(0), 0);
        Due.is("1", unit.restore(1), 1);
        document.sentence("BAD_VALUE if there is no such slot;");
        for (int slot : NO_SLOT) {
            Due.is("slot " + slot, unit.restore(slot), -2);
            Due.is("of a new unit", new VotedCharge().restore(slot), -2);
        }
        document.sentence("NOT_POSSIBLE if nothing was saved in it.");
        unit = new VotedCharge();
        Due.is("0", unit.restore(0), -5);
        Due.is("1", unit.restore(1), -5);
        unit.save(1);
        Due.is("0, when 1 is saved", unit.restore(0), -5);
        Due.is("1", unit.restore(1), 0);
        unit.undo();
        Due.is("save is not undone", unit.restore(1), 0);
        unit = new VotedCharge();
        unit.save(0);
        Due.is("1, when 0 is saved", unit.restore(1), -5);
    }
}
