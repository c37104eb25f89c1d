/** The sentences of "A tick" about the stages and the recorder. */
final class StageSentences {
    private StageSentences() {
    }

    static void check(Document document) {
        document.section("A tick");
        firing(document);
        stageZero(document);
        stageOne(document);
        stageOneBehindABar(document);
        stageTwo(document);
        delayOfZero(document);
        latestTicks(document);
        event(document);
        sixBehind(document);
        untilServiced(document);
    }

    private static void firing(Document document) {
        document.sentence("8. Stages, the stage 0 first: a stage that is not fired and not barred fires in this tick, if "
            + "the unit is armed, and");
        VotedCharge unit = new VotedCharge();
        unit.set(VotedCharge.HOLD, 1);
        unit.set(VotedCharge.DELAY, 0);
        Due.is("not armed", unit.ifTick(400, 400, 400, false, 0), 0);
        Due.is("armed", unit.ifTick(400, 400, 400, true, 0), 7);
        unit.bar(2, true);
        Due.is("2 is barred", unit.ifTick(400, 400, 400, true, 0), 3);
        unit.bar(0, true);
        Due.is("0 and 2 are barred", unit.ifTick(400, 400, 400, true, 0), 2);
        unit.bar(1, true);
        Due.is("all are barred", unit.ifTick(400, 400, 400, true, 0), 0);
        unit.bar(0, false);
        Due.is("1 and 2 are barred", Calls.tickAll(unit, 400, true), 1);
        Due.is("0 is fired", unit.ifTick(400, 400, 400, true, 0), 0);
        unit.bar(1, false);
        unit.bar(2, false);
        Due.is("not armed any more", unit.ifTick(400, 400, 400, false, 0), 0);
        Due.is("the others fire", Calls.tickAll(unit, 401, true), 6);
        Due.is("all are fired", Calls.tickAll(unit, 402, true), 0);
    }

    private static void stageZero(Document document) {
        document.sentence("- stage 0: there are two low votes or more;");
        VotedCharge unit = new VotedCharge();
        int[][] ticks = {{59, 59, 59, 0}, {60, 59, 59, 0}, {59, 60, 59, 0}, {59, 59, 60, 0}, {60, 60, 59, 1}, {60, 59, 60, 1},
            {59, 60, 60, 1}, {60, 60, 60, 1}, {500, 59, 59, 0}, {60, 500, 60, 1}};
        for (int[] tick : ticks) {
            Due.is(tick[0] + ", " + tick[1] + ", " + tick[2], unit.ifTick(tick[0], tick[1], tick[2], true, 0), tick[3]);
        }
        for (int votes = 0; votes < 8; votes++) {
            int due = Integer.bitCount(votes) >= 2 ? 1 : 0;
            Due.is("votes " + votes, Calls.withVotes(votes).ifTick(400, 400, 400, true, 0), due);
        }
    }

    private static void stageOne(Document document) {
        document.sentence("- stage 1: there are two low votes or more, and the stage 0 fired DELAY ticks ago or more,");
        for (int delay = 1; delay <= 20; delay++) {
            VotedCharge unit = new VotedCharge();
            unit.set(VotedCharge.HIGH, 2000);
            waitFor(unit, delay, 60, 2);
        }
        VotedCharge unit = new VotedCharge();
        unit.set(VotedCharge.DELAY, 20);
        Calls.tickAll(unit, 60, true);
        Calls.tickAll(unit, 61, true);
        unit.set(VotedCharge.DELAY, 2);
        Due.is("the delay of the tick counts", Calls.tickAll(unit, 60, true), 2);
    }

    /** A stage fires with this reading; the next one is due behind the delay, and with two votes. */
    private static void waitFor(VotedCharge unit, int delay, int reading, int next) {
        unit.set(VotedCharge.DELAY, delay);
        unit.set(VotedCharge.STUCK, 50);
        unit.set(VotedCharge.FAR, 500);
        unit.set(VotedCharge.HOLD, 1);
        Due.is("the stage ahead of it", Calls.tickAll(unit, reading, true), next / 2);
        if (next == 4) {
            unit.set(VotedCharge.LOW, 2000);
        }
        for (int i = 1; i < delay; i++) {
            Due.is("less than the delay", unit.ifTick(400, 400, 400, true, 0), 0);
            Due.is("no votes", Calls.tickAll(unit, 0, true), 0);
        }
        Due.is("the delay, and no vote", unit.ifTick(0, 0, 0, true, 0), 0);
        Due.is("the delay, and one vote", unit.ifTick(400, 0, 0, true, 0), 0);
        Due.is("the delay, and two votes", unit.ifTick(400, 0, 400, true, 0), next);
        Due.is("the delay, and three votes", unit.ifTick(400, 400, 400, true, 0), next);
        Due.is("the delay, but not armed", unit.ifTick(400, 400, 400, false, 0), 0);
        Due.is("no votes", Calls.tickAll(unit, 0, true), 0);
        Due.is("more than the delay", Calls.tickAll(unit, 400, true), next);
    }

    private static void stageOneBehindABar(Document document) {
        document.sentence("or is barred;");
        VotedCharge unit = new VotedCharge();
        unit.set(VotedCharge.DELAY, 20);
        unit.bar(0, true);
        Due.is("no vote", unit.ifTick(59, 59, 59, true, 0), 0);
        Due.is("one vote", unit.ifTick(60, 59, 59, true, 0), 0);
        Due.is("two votes", unit.ifTick(60, 59, 60, true, 0), 2);
        Due.is("not armed", unit.ifTick(60, 60, 60, false, 0), 0);
        unit.bar(0, false);
        Due.is("let go: it waits for the stage 0 again", unit.ifTick(60, 60, 60, true, 0), 1);
        unit.bar(0, true);
        Due.is("barred again", Calls.tickAll(unit, 60, true), 2);
        unit.bar(0, false);
        Due.is("the stage 0 behind the stage 1", Calls.tickAll(unit, 60, true), 1);
    }

    private static void stageTwo(Document document) {
        document.sentence("- stage 2: there are two high votes or more, and the stage 1 fired DELAY ticks ago or more.");
        for (int delay = 1; delay <= 20; delay++) {
            VotedCharge unit = new VotedCharge();
            unit.bar(0, true);
            waitFor(unit, delay, 150, 4);
        }
        VotedCharge unit = new VotedCharge();
        unit.set(VotedCharge.DELAY, 0);
        unit.bar(1, true);
        Due.is("the stage 1 is barred, but not fired", Calls.tickAll(unit, 400, true), 1);
        Due.is("nor a tick later", Calls.tickAll(unit, 401, true), 0);
        unit = new VotedCharge();
        unit.set(VotedCharge.DELAY, 0);
        int[][] ticks = {{149, 149, 149, 3}, {150, 149, 149, 3}, {149, 150, 149, 3}, {149, 149, 150, 3}, {150, 150, 149, 7},
            {150, 149, 150, 7}, {149, 150, 150, 7}, {150, 150, 150, 7}};
        for (int[] tick : ticks) {
            Due.is(tick[0] + ", " + tick[1] + ", " + tick[2], unit.ifTick(tick[0], tick[1], tick[2], true, 0), tick[3]);
        }
    }

    private static void delayOfZero(Document document) {
        document.sentence("(With DELAY as 0 several stages can fire in one tick.)");
        VotedCharge unit = new VotedCharge();
        unit.set(VotedCharge.DELAY, 0);
        Due.is("three", Calls.tickAll(unit, 150, true), 7);
        for (int stage = 0; stage < 3; stage++) {
            Due.is("in the tick 0", unit.stage(stage, 0), 0);
        }
        unit.service();
        Due.is("two", Calls.tickAll(unit, 60, true), 3);
        unit.service();
        unit.set(VotedCharge.DELAY, 1);
        Due.is("one, with a delay of 1", Calls.tickAll(unit, 150, true), 1);
    }

    private static void latestTicks(Document document) {
        document.sentence("9. The recorder takes the tick: it has the latest 12 ticks at most.");
        VotedCharge unit = new VotedCharge();
        Due.is("empty", unit.record(0, 0), -1);
        for (int tick = 0; tick < 14; tick++) {
            unit.tick(tick, 2 * tick, -tick, tick % 2 == 0);
            int size = tick < 12 ? tick + 1 : 12;
            Due.is("how many behind the tick " + tick, unit.count(5), size);
            for (int place = 0; place < size; place++) {
                int which = tick + 1 - size + place;
                Due.is("the tick", unit.record(place, 0), which);
                Due.is("its reading", unit.record(place, 2), 100000 + 2 * which);
                Due.is("its switch", unit.record(place, 4), which % 2 == 0 ? 1 : 0);
            }
            Due.is("behind the last one", unit.record(size, 0), -1);
        }
    }

    private static void event(Document document) {
        document.sentence("The first tick in which a stage fires, since the beginning or the latest service, is the "
            + "event:");
        VotedCharge unit = new VotedCharge();
        Calls.tickAll(unit, 1, true);
        Due.is("none has fired", unit.count(6), -6);
        Calls.tickAll(unit, 100, true);
        Due.is("the stage 0 has", unit.count(6), 1);
        Calls.tickAll(unit, 101, true);
        Due.is("the stage 1 fires", Calls.tickAll(unit, 100, true), 2);
        Due.is("the event stays", unit.count(6), 1);
        unit.service();
        Due.is("none since the service", unit.count(6), -6);
        unit.bar(0, true);
        Due.is("the stage 1 fires alone", Calls.tickAll(unit, 101, true), 2);
        Due.is("that is an event, too", unit.count(6), 4);
        unit = new VotedCharge();
        Due.is("a stage fires in the first tick", Calls.tickAll(unit, 60, true), 1);
        Due.is("that is the event", unit.count(6), 0);
    }

    private static void sixBehind(Document document) {
        document.sentence("the recorder takes the 6 ticks behind it, and then no more,");
        for (int ahead = 0; ahead < 15; ahead++) {
            VotedCharge unit = new VotedCharge();
            for (int i = 0; i < ahead; i++) {
                Calls.tickAll(unit, i % 2, true);
            }
            Due.is("the event", Calls.tickAll(unit, 90, true), 1);
            for (int behind = 1; behind < 10; behind++) {
                int size = Math.min(12, ahead + 1 + Math.min(behind, 6));
                Due.is("it takes the next one", unit.count(7), behind <= 6 ? 1 : 0);
                Calls.tickAll(unit, 90 + behind, true);
                Due.is(ahead + " ahead, " + behind + " behind: how many", unit.count(5), size);
                Due.is("the last one", unit.record(size - 1, 0), ahead + Math.min(behind, 6));
                Due.is("the first one", unit.record(0, 0), ahead + Math.min(behind, 6) + 1 - size);
            }
        }
    }

    private static void untilServiced(Document document) {
        document.sentence("until it is serviced.");
        VotedCharge unit = new VotedCharge();
        for (int i = 0; i < 9; i++) {
            Calls.tickAll(unit, 90 + i, true);
        }
        Due.is("it takes no more", unit.count(7), 0);
        Due.is("it has seven", unit.count(5), 7);
        unit.service();
        Due.is("it takes ticks", unit.count(7), 1);
        Due.is("it is empty", unit.count(5), 0);
        Calls.tickAll(unit, 1, false);
        Due.is("it has the tick 9", unit.record(0, 0), 9);
        Calls.tickAll(unit, 400, true);
        for (int i = 0; i < 7; i++) {
            Due.is("six behind the new event", unit.count(7), i < 6 ? 1 : 0);
            Calls.tickAll(unit, i, true);
        }
        Due.is("the first one", unit.record(0, 0), 9);
        Due.is("the last one", unit.record(7, 0), 16);
        Due.is("no other", unit.record(8, 0), -1);
    }
}
