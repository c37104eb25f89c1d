/** The sentences of the promises 14 to 17: put, wipe, fault, run. */
final class TextSentences {
    private TextSentences() {
    }

    static void check(Document document) {
        document.section("Promise 14");
        put(document);
        noMoreCharacters(document);
        putErrors(document);
        tooLong(document);
        document.section("Promise 15");
        wipe(document);
        document.section("Promise 16");
        fault(document);
        document.section("Promise 17");
        run(document);
        runErrors(document);
        runLimit(document);
    }

    private static void put(Document document) {
        document.sentence("Appends characters to the pad.");
        VotedCharge unit = new VotedCharge();
        unit.put(Calls.asNumber("1,2"));
        unit.put(Calls.asNumber(",3c"));
        Due.is("behind those that are there", unit.fault(), -6);
        unit.run();
        Due.is("the first one", unit.record(0, 1), 100001);
        Due.is("the last one", unit.record(0, 3), 100003);
        document.sentence("They are given as a number: its lowest 8 bits are the last character, the next 8 bits the one "
            + "before, and so on;");
        unit.put(0x31_2c_32_2c_33_63L);
        Due.is("no fault", unit.fault(), -6);
        unit.run();
        for (int sensor = 0; sensor < 3; sensor++) {
            Due.is("1, 2 and 3", unit.record(1, 1 + sensor), 100001 + sensor);
        }
        String text = "-12,-3,4";
        for (int size = 1; size <= 8; size++) {
            unit.wipe();
            unit.put(Calls.asNumber(text.substring(0, size)));
            unit.put('!');
            Due.is(size + " characters in their order", unit.fault(), size);
        }
    }

    private static void noMoreCharacters(Document document) {
        document.sentence("8 bits that are 0 mean that there are no more characters, and everything above them has to be "
            + "0, too.");
        for (int size = 1; size <= 7; size++) {
            long characters = Calls.asNumber("1111111".substring(0, size));
            for (int bit = 8 * size + 8; bit < 64; bit++) {
                Due.is(size + " characters, and the bit " + bit, new VotedCharge().put(characters | 1L << bit), -2);
            }
            Due.is(size + " characters", new VotedCharge().put(characters), size);
        }
        for (int bit = 8; bit < 64; bit++) {
            Due.is("no character, and the bit " + bit, new VotedCharge().put(1L << bit), -2);
        }
        document.sentence("- `characters`: 1 to 8 characters");
        VotedCharge unit = new VotedCharge();
        Due.is("1", unit.put('1'), 1);
        Due.is("8", unit.put(Calls.asNumber("12345678")), 9);
        Due.is("0", unit.put(0), -2);
        document.sentence("Returns the length of the pad then;");
        for (int size = 1; size <= 8; size++) {
            Due.is(size + " more", unit.put(Calls.asNumber("12345678".substring(0, size))), 9 + size * (size + 1) / 2);
        }
    }

    private static void putErrors(Document document) {
        document.sentence("BAD_VALUE if there is no character, a code is not 33 to 126, or a bit above 8 bits that are 0 is "
            + "not 0;");
        Due.is("no character", new VotedCharge().put(0), -2);
        for (int size = 1; size <= 8; size++) {
            long characters = Calls.asNumber("11111111".substring(0, size));
            for (int place = 0; place < size; place++) {
                for (int code = 0; code <= 255; code++) {
                    long changed = characters & ~(255L << 8 * place) | (long) code << 8 * place;
                    int due = code >= 33 && code <= 126 ? size : code == 0 && size > 1 && place == size - 1 ? size - 1 : -2;
                    VotedCharge unit = new VotedCharge();
                    Due.is(size + " characters, the code " + code + " at " + place, unit.put(changed), due);
                    Due.is("the length", unit.count(14), Math.max(due, 0));
                }
            }
        }
        Due.is("-1", new VotedCharge().put(-1), -2);
        Due.is("the least number", new VotedCharge().put(Long.MIN_VALUE), -2);
        Due.is("the greatest number", new VotedCharge().put(Long.MAX_VALUE), -2);
        Due.is("code 33 eight times", new VotedCharge().put(0x2121212121212121L), 8);
        Due.is("code 126 eight times", new VotedCharge().put(0x7e7e7e7e7e7e7e7eL), 8);
    }

    private static void tooLong(Document document) {
        document.sentence("TOO_MANY if the pad would be longer than 80.");
        for (int length = 72; length <= 80; length++) {
            for (int size = 1; size <= 8; size++) {
                VotedCharge unit = new VotedCharge();
                for (int i = 0; i < length; i++) {
                    unit.put('1');
                }
                int answer = unit.put(Calls.asNumber("12345678".substring(0, size)));
                Due.is(length + " and " + size, answer, length + size <= 80 ? length + size : -4);
                Due.is("the length", unit.count(14), length + size <= 80 ? length + size : length);
            }
        }
    }

    private static void wipe(Document document) {
        document.sentence("Empties the pad, and returns the length that it had.");
        VotedCharge unit = new VotedCharge();
        Due.is("of an empty pad", unit.wipe(), 0);
        Calls.putAll(unit, TermsSentences.FULL_PAD);
        Due.is("of a full pad", unit.wipe(), 80);
        Due.is("it is empty", unit.count(14), 0);
        Due.is("its fault", unit.fault(), 0);
        Due.is("again", unit.wipe(), 0);
        unit.put('x');
        Due.is("of a pad with a fault", unit.wipe(), 1);
        Calls.putAll(unit, "7,8,9");
        Due.is("nothing is left of it", unit.run(), 0);
        Due.is("one tick", unit.count(0), 1);
    }

    private static void fault(Document document) {
        document.sentence("Returns the fault of the pad, NONE if there is none.");
        Due.is("empty", Calls.faultOf(""), 0);
        Due.is("none", Calls.faultOf("0,0,0"), -6);
        Due.is("none in a full pad", Calls.faultOf(TermsSentences.FULL_PAD), -6);
        Due.is("the last place of a full pad", Calls.faultOf(TermsSentences.FULL_PAD.substring(0, 79) + ","), 79);
        Due.is("behind a full pad", Calls.faultOf(TermsSentences.FULL_PAD.substring(0, 79) + ";"), 80);
        VotedCharge unit = new VotedCharge();
        Calls.putAll(unit, "1,2,3");
        Due.is("asked", unit.fault(), -6);
        Due.is("asked again", unit.fault(), -6);
        unit.put(';');
        Due.is("asked behind more", unit.fault(), 6);
    }

    private static void run(Document document) {
        document.sentence("Lets the ticks of the pad pass, one after the other, and empties the pad.");
        VotedCharge one = new VotedCharge();
        VotedCharge two = new VotedCharge();
        Calls.putAll(one, "1,2,3;60,-61,500c;10,100,150;150,150,150c;0,0,0;150,149,148c;9,9,9");
        int fired = two.tick(1, 2, 3, false) | two.tick(60, -61, 500, true) | two.tick(10, 100, 150, false)
            | two.tick(150, 150, 150, true) | two.tick(0, 0, 0, false) | two.tick(150, 149, 148, true)
            | two.tick(9, 9, 9, false);
        Due.is("the stages", one.run(), fired);
        Due.same("as with ticks", Calls.look(one), Calls.look(two));
        Due.is("the pad is empty", one.count(14), 0);
        document.sentence("This is a change (one, with all of them).");
        Due.is("one", one.count(15), 1);
        Due.is("undone", one.undo(), 0);
        Due.same("as new", Calls.look(one), Calls.look(new VotedCharge()));
        Due.is("the pad does not come back", one.count(14), 0);
        document.sentence("Returns the stages that fire in them, as a set;");
        VotedCharge unit = new VotedCharge();
        unit.set(VotedCharge.DELAY, 1);
        Calls.putAll(unit, "150,150,150c;151,151,151");
        Due.is("the stages of two ticks", unit.run(), 3);
        Calls.putAll(unit, "150,150,150;0,0,0");
        Due.is("not those that fired ahead of them", unit.run(), 4);
        Calls.putAll(unit, "150,150,150c");
        Due.is("none", unit.run(), 0);
    }

    private static void runErrors(Document document) {
        document.sentence("BAD_TEXT if the pad has a fault (then it stays);");
        String[] texts = {"", "1", "1,2,", "1,2,3;", "1,2,3x", "x", "1,2,3;4,5", "00,1,2", "1,2,501",
            TermsSentences.FULL_PAD.substring(0, 79) + ";"};
        for (String text : texts) {
            VotedCharge unit = new VotedCharge();
            unit.save(0);
            Calls.putAll(unit, text);
            int fault = unit.fault();
            Due.is(text, unit.run(), -3);
            Due.is("it stays", unit.count(14), text.length());
            Due.is("its fault stays", unit.fault(), fault);
            Due.is("no tick has passed", unit.count(0), 0);
            Due.is("nothing to undo", unit.count(15), 0);
        }
        VotedCharge unit = new VotedCharge();
        Calls.putAll(unit, "100,100,100c;1,");
        Due.is("a fault behind a tick that is right", unit.run(), -3);
        Calls.putAll(unit, "2,3");
        Due.is("it has stayed, and is mended", unit.run(), 1);
        Due.is("two ticks", unit.count(0), 2);
    }

    private static void runLimit(Document document) {
        document.sentence("TOO_MANY if more than 100000 ticks would have passed.");
        VotedCharge unit = Calls.behindTicks(99987);
        unit.save(0);
        Calls.putAll(unit, TermsSentences.FULL_PAD);
        Due.is("99987 and 13", unit.run() >= 0 ? 1 : 0, 1);
        Due.is("100000", unit.count(0), 100000);
        unit.restore(0);
        unit.tick(1, 1, 1, false);
        Calls.putAll(unit, TermsSentences.FULL_PAD);
        String due = Calls.glance(unit);
        int undoable = unit.count(15);
        Due.is("99988 and 13", unit.run(), -4);
        Due.same("nothing changes", Calls.glance(unit), due);
        Due.is("no change more", unit.count(15), undoable);
        Due.is("the pad stays", unit.wipe(), 80);
        unit = Calls.behindTicks(99999);
        Calls.putAll(unit, "0,0,0;1,1,1");
        Due.is("its fault", unit.fault(), -6);
        Due.is("99999 and 2", unit.run(), -4);
        unit.wipe();
        Calls.putAll(unit, "0,0,0");
        Due.is("its fault", unit.fault(), -6);
        Due.is("only the ticks of this text count: 99999 and 1", unit.run(), 0);
        Calls.putAll(unit, "0,0,0");
        Due.is("100000 and 1", unit.run(), -4);
    }
}
