/** The sentences of "Texts". */
final class PadSentences {
    private static final String DIGITS = "0123456789";

    private PadSentences() {
    }

    static void check(Document document) {
        document.section("Texts");
        length(document);
        grammar(document);
        numbers(document);
        closed(document);
        faultsInside(document);
        digitsAbove(document);
        endsTooEarly(document);
        constants(document);
        changes(document);
        looks(document);
        whatIfs(document);
        texts(document);
        undoAndSaving(document);
    }

    private static void length(Document document) {
        document.sentence("The pad is a text of at most 80 characters, a row of ticks:");
        VotedCharge unit = new VotedCharge();
        Due.is("80 characters", Calls.putAll(unit, TermsSentences.FULL_PAD), 80);
        Due.is("81 are too many", unit.put('0'), -4);
        Due.is("80 without a fault", unit.fault(), -6);
        Due.is("a row of ticks", unit.run(), 1);
        Due.is("13 of them", unit.count(0), 13);
        unit = new VotedCharge();
        Calls.putAll(unit, "500,-500,0");
        unit.run();
        Due.is("a row of one", unit.count(0), 1);
    }

    /** A text that is right so far, and the characters that can follow; with a '.' the text can end, too. */
    private static final String[][] FOLLOWING = {
        {"", "-" + DIGITS}, {"-", DIGITS}, {"0", ","}, {"-0", ","}, {"5", "," + DIGITS}, {"9", "," + DIGITS},
        {"-5", "," + DIGITS}, {"49", "," + DIGITS}, {"50", ",0"}, {"-50", ",0"}, {"51", ","}, {"99", ","}, {"10", "," + DIGITS},
        {"500", ","}, {"499", ","}, {"-500", ","}, {"100", ","}, {"0,", "-" + DIGITS}, {"0,-", DIGITS}, {"0,0", ","},
        {"0,7", "," + DIGITS}, {"0,50", ",0"}, {"0,-500", ","}, {"0,0,", "-" + DIGITS}, {"0,0,-", DIGITS},
        {"0,0,0", ";c."}, {"0,0,-0", ";c."}, {"0,0,5", ";c." + DIGITS}, {"0,0,50", ";c.0"}, {"0,0,-50", ";c.0"},
        {"0,0,51", ";c."}, {"0,0,500", ";c."}, {"0,0,49", ";c." + DIGITS}, {"0,0,0c", ";."}, {"-1,-2,-3c", ";."},
        {"0,0,0;", "-" + DIGITS}, {"0,0,0c;", "-" + DIGITS}, {"0,0,0;-", DIGITS}, {"0,0,0;0", ","}, {"0,0,0;1,2", "," + DIGITS},
        {"0,0,0c;1,2,3", ";c." + DIGITS}, {"0,0,0c;1,2,3c", ";."}, {"0,0,0;1,2,3;", "-" + DIGITS}};

    /** Each character behind each of the texts: the fault is its index, or the text can go on. */
    private static void grammar(Document document) {
        document.sentence("text = tick { \";\" tick }; tick = number \",\" number \",\" number [ \"c\" ];");
        for (String[] following : FOLLOWING) {
            String text = following[0];
            Due.is(text, Calls.faultOf(text), following[1].indexOf('.') >= 0 ? -6 : text.length());
            for (char code = 33; code <= 126; code++) {
                boolean canStand = code != '.' && following[1].indexOf(code) >= 0;
                int fault = Calls.faultOf(text + code);
                if (canStand) {
                    Due.is(text + code, fault == text.length() + 1 || fault == -6 ? 1 : 0, 1);
                } else {
                    Due.is(text + code, fault, text.length());
                    Due.is(text + code + ",0,0", Calls.faultOf(text + code + ",0,0"), text.length());
                }
            }
        }
    }

    private static void numbers(Document document) {
        document.sentence("number = [ \"-\" ] digits, which are 0 to 500 without leading zeros (\"-0\" is 0).");
        for (int number = -500; number <= 500; number++) {
            VotedCharge unit = new VotedCharge();
            Calls.putAll(unit, number + "," + -number + "," + number / 2);
            Due.is("run of " + number, unit.run() >= 0 ? 1 : 0, 1);
            Due.is("first", unit.sensor(0, 4), 100000 + number);
            Due.is("second", unit.sensor(1, 4), 100000 - number);
            Due.is("third", unit.sensor(2, 4), 100000 + number / 2);
        }
        for (int number = 501; number <= 1100; number++) {
            int digit = number < 1000 ? 2 : 3;
            Due.is("fault of " + number, Calls.faultOf(number + ",0,0"), digit);
            Due.is("fault of -" + number, Calls.faultOf("-" + number + ",0,0"), digit + 1);
        }
        for (int number = 0; number <= 500; number++) {
            Due.is("fault of 0" + number, Calls.faultOf("0" + number + ",0,0"), 1);
            Due.is("fault of -0" + number, Calls.faultOf("0,0,-0" + number), 6);
        }
        VotedCharge unit = new VotedCharge();
        Calls.putAll(unit, "-0,-0,-0");
        unit.run();
        Due.is("-0 is 0", unit.sensor(2, 4), 100000);
        Calls.tickAll(unit, 0, true);
        Due.is("the same as 0", unit.sensor(2, 3), 2);
    }

    private static void closed(Document document) {
        document.sentence("\"c\": the switch is closed.");
        VotedCharge unit = new VotedCharge();
        Calls.putAll(unit, "1,2,3c;1,2,4;1,2,5c;1,2,6");
        unit.run();
        for (int place = 0; place < 4; place++) {
            Due.is("tick " + place, unit.record(place, 4), place % 2 == 0 ? 1 : 0);
        }
        Calls.putAll(unit, "1,2,3");
        unit.run();
        Due.is("open", unit.record(4, 4), 0);
        Calls.putAll(unit, "1,2,4c");
        unit.run();
        Due.is("closed", unit.record(5, 4), 1);
    }

    private static void faultsInside(Document document) {
        document.sentence("The fault is the index of the first character that cannot stand at its place when the text is "
            + "read from left to right");
        Due.is("the first character", Calls.faultOf("x"), 0);
        Due.is("the first of two", Calls.faultOf("1,,;"), 2);
        Due.is("the first of two, the other one nearer to the end", Calls.faultOf("1,2,c;4;"), 4);
        String text = TermsSentences.FULL_PAD;
        for (int at = 0; at < 80; at++) {
            String broken = text.substring(0, at) + "!" + text.substring(at + 1);
            Due.is("a fault at " + at, Calls.faultOf(broken), at);
            Due.is("cut at " + at, Calls.faultOf(broken.substring(0, at + 1)), at);
        }
        Due.is("what is right for itself cannot stand behind a fault", Calls.faultOf("00,1,2"), 1);
    }

    private static void digitsAbove(Document document) {
        document.sentence("(also of a digit by which the digits would be above 500);");
        String[] texts = {"501,0,0", "510,0,0", "600,0,0", "999,0,0", "1000,0,0", "5000,0,0", "-501,0,0", "-600,0,0",
            "0,501,0", "0,0,501", "0,0,1000", "0,0,-510c", "0,0,0;502"};
        int[] faults = {2, 2, 2, 2, 3, 3, 3, 3, 4, 6, 7, 7, 8};
        for (int i = 0; i < texts.length; i++) {
            Due.is(texts[i], Calls.faultOf(texts[i]), faults[i]);
        }
        Due.is("500", Calls.faultOf("500,-500,500c"), -6);
        Due.is("many digits", Calls.faultOf("4" + "9".repeat(70)), 3);
        Due.is("many zeros", Calls.faultOf("1" + "0".repeat(70)), 3);
    }

    private static void endsTooEarly(Document document) {
        document.sentence("if there is none and the text ends too early (also if it is empty), it is the length of the "
            + "text.");
        Due.is("empty", Calls.faultOf(""), 0);
        VotedCharge unit = new VotedCharge();
        unit.put('1');
        unit.wipe();
        Due.is("empty again", unit.fault(), 0);
        String text = TermsSentences.FULL_PAD;
        for (int length = 1; length <= 80; length++) {
            String cut = text.substring(0, length);
            int commas = cut.substring(cut.lastIndexOf(';') + 1).replaceAll("[^,]", "").length();
            boolean isWhole = commas == 2 && !cut.endsWith(",");
            Due.is("cut to " + length, Calls.faultOf(cut), isWhole ? -6 : length);
        }
        Due.is("80 characters that end too early", Calls.faultOf(text.substring(0, 78) + "9;"), 80);
        Due.is("behind a minus", Calls.faultOf("1,2,-"), 5);
    }

    private static void constants(Document document) {
        document.sentence("The constants: `NO_SUCH = -1, BAD_VALUE = -2, BAD_TEXT = -3, TOO_MANY = -4, NOT_POSSIBLE = -5, "
            + "NONE = -6`: Error codes, and NONE: there is none.");
        int[] codes = {VotedCharge.NO_SUCH, VotedCharge.BAD_VALUE, VotedCharge.BAD_TEXT, VotedCharge.TOO_MANY,
            VotedCharge.NOT_POSSIBLE, VotedCharge.NONE};
        for (int i = 0; i < codes.length; i++) {
            Due.is("code " + i, codes[i], -1 - i);
        }
        document.sentence("`LOW = 0, HIGH = 1, HOLD = 2, STUCK = 3, FAR = 4, DELAY = 5`: Settings.");
        int[] settings = {VotedCharge.LOW, VotedCharge.HIGH, VotedCharge.HOLD, VotedCharge.STUCK, VotedCharge.FAR,
            VotedCharge.DELAY};
        int[] first = {60, 150, 5, 8, 40, 2};
        for (int i = 0; i < settings.length; i++) {
            Due.is("setting " + i, settings[i], i);
            Due.is("its first value", new VotedCharge().set(settings[i], 20), first[i]);
        }
    }

    private static void changes(Document document) {
        document.sentence("Ahead of the calls `set`, `tick`, `bar`, `test`, `service` the interface says: ---- changes.");
        VotedCharge unit = new VotedCharge();
        unit.set(0, 60);
        Due.is("set", unit.count(15), 1);
        unit.tick(0, 0, 0, false);
        Due.is("tick", unit.count(15), 2);
        unit.bar(0, true);
        Due.is("bar", unit.count(15), 3);
        unit.test(0);
        Due.is("test", unit.count(15), 4);
        unit.service();
        Due.is("service", unit.count(15), 5);
    }

    private static VotedCharge busy() {
        VotedCharge unit = new VotedCharge();
        unit.save(1);
        unit.tick(9, 8, 7, true);
        unit.bar(1, true);
        Calls.tickAll(unit, 90, true);
        Calls.putAll(unit, "1,2");
        return unit;
    }

    private static void looks(Document document) {
        document.sentence("Ahead of the calls `sensor`, `stage`, `record`, `count` the interface says: ---- what there "
            + "is.");
        VotedCharge unit = busy();
        Calls.look(unit);
        Due.same("behind looking", Calls.holdings(unit), Calls.holdings(busy()));
    }

    private static void whatIfs(Document document) {
        document.sentence("Ahead of the calls `ifTick`, `leastReading`, `ticksTo` the interface says: ---- what if; nothing "
            + "changes.");
        VotedCharge unit = busy();
        for (int what = 0; what < 6; what++) {
            unit.ifTick(500, 450, -500, what % 2 == 0, what);
        }
        for (int stage = 0; stage < 3; stage++) {
            unit.leastReading(stage, true);
            unit.leastReading(stage, false);
            unit.ticksTo(stage, 500);
            unit.ticksTo(stage, -500);
        }
        Due.same("behind what if", Calls.holdings(unit), Calls.holdings(busy()));
    }

    private static void texts(Document document) {
        document.sentence("Ahead of the calls `put`, `wipe`, `fault`, `run` the interface says: ---- texts.");
        VotedCharge unit = busy();
        unit.put('x');
        unit.fault();
        unit.wipe();
        Calls.putAll(unit, "1,2");
        Due.same("behind put, fault and wipe", Calls.holdings(unit), Calls.holdings(busy()));
        unit = busy();
        Calls.putAll(unit, ",3");
        unit.run();
        Due.is("run is a change", unit.count(15), 4);
    }

    private static void undoAndSaving(Document document) {
        document.sentence("Ahead of the calls `undo`, `save`, `restore` the interface says: ---- undo, saving.");
        VotedCharge unit = busy();
        unit.save(0);
        Due.is("save is no change", unit.count(15), 3);
        unit.restore(1);
        Due.is("restore is one", unit.count(15), 4);
        unit.undo();
        Due.is("undo takes one back", unit.count(15), 3);
    }
}
