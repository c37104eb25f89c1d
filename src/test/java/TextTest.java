/** Promises 14 to 17: put, wipe, fault, run. */
public final class TextTest {
    public static void main(String[] args) {
        put();
        putErrors();
        putLimit();
        wipe();
        faultsOfNumbers();
        faultsOfTicks();
        faultsOfOtherCharacters();
        run();
        runIsTheSameAsTicks();
        runIsOneChange();
        runErrors();
        runOfAFullPad();
        Due.end();
    }

    private static void put() {
        VotedCharge unit = new VotedCharge();
        Due.is("one character", unit.put('1'), 1);
        Due.is("two", unit.put(Calls.asNumber(",2")), 3);
        Due.is("eight", unit.put(Calls.asNumber(",3;4,5,6")), 11);
        Due.is("no fault: they stand in their order", unit.fault(), -6);
        Due.is("the length", unit.count(14), 11);
        Due.is("it is no change", unit.count(15), 0);
        unit.run();
        Due.is("the first reading", unit.record(0, 1), 100001);
        Due.is("the last reading", unit.record(1, 3), 100006);
    }

    private static void putErrors() {
        VotedCharge unit = new VotedCharge();
        Due.is("no character", unit.put(0), -2);
        Due.is("0 below a character", unit.put(0x3100L), -2);
        Due.is("0 between characters", unit.put(0x310031L), -2);
        Due.is("0 below the first of eight", unit.put(0x3100313131313131L), -2);
        Due.is("a bit far above", unit.put(0x0100000000000031L), -2);
        Due.is("a bit of the sign", unit.put(0x8000000000000031L), -2);
        Due.is("code 32", unit.put(32), -2);
        Due.is("code 33", unit.put(33), 1);
        Due.is("code 126", unit.put(126), 2);
        Due.is("code 127", unit.put(127), -2);
        Due.is("code 128", unit.put(128), -2);
        Due.is("code 255", unit.put(255), -2);
        Due.is("code 1", unit.put(1), -2);
        Due.is("-1", unit.put(-1), -2);
        Due.is("the least", unit.put(Long.MIN_VALUE), -2);
        Due.is("the most", unit.put(Long.MAX_VALUE), -2);
        Due.is("code 32 as the first", unit.put(Calls.asNumber(" 1")), -2);
        Due.is("code 32 as the last", unit.put(Calls.asNumber("1 ")), -2);
        Due.is("code 32 as the first of eight", unit.put(Calls.asNumber(" 1234567")), -2);
        Due.is("code 200 as the first of eight", unit.put(0xC831313131313131L), -2);
        Due.is("the length stays", unit.count(14), 2);
        Due.is("code 126, eight times", unit.put(0x7E7E7E7E7E7E7E7EL), 10);
    }

    private static void putLimit() {
        VotedCharge unit = new VotedCharge();
        for (int i = 1; i <= 9; i++) {
            Due.is("eight more", unit.put(Calls.asNumber("12345678")), 8 * i);
        }
        Due.is("seven more", unit.put(Calls.asNumber("1234567")), 79);
        Due.is("two are too many", unit.put(Calls.asNumber("12")), -4);
        Due.is("eight are too many", unit.put(Calls.asNumber("12345678")), -4);
        Due.is("a wrong code is told first", unit.put(Calls.asNumber("1 ")), -2);
        Due.is("the length stays", unit.count(14), 79);
        Due.is("one is not", unit.put('1'), 80);
        Due.is("one more is", unit.put('1'), -4);
        Due.is("no character is told first", unit.put(0), -2);
        Due.is("80", unit.count(14), 80);
        Due.is("wiped", unit.wipe(), 80);
        Due.is("there is room again", unit.put('1'), 1);
    }

    private static void wipe() {
        VotedCharge unit = new VotedCharge();
        Due.is("wipe of an empty pad", unit.wipe(), 0);
        unit.put(Calls.asNumber("1,2"));
        Due.is("wipe", unit.wipe(), 3);
        Due.is("wipe again", unit.wipe(), 0);
        Due.is("the length", unit.count(14), 0);
        Due.is("it is no change", unit.count(15), 0);
        Calls.putAll(unit, "7,8,9");
        Due.is("nothing is left of it", unit.fault(), -6);
    }

    private static void faultsOfNumbers() {
        String[] good = {"0", "-0", "1", "9", "10", "99", "100", "499", "500", "-1", "-500", "-99"};
        for (String number : good) {
            Due.is(number, Calls.faultOf(number + ",0,0"), -6);
            Due.is("last: " + number, Calls.faultOf("0,0," + number), -6);
            Due.is("last, closed: " + number, Calls.faultOf("0,0," + number + "c"), -6);
        }
        String[] bad = {"00", "01", "-00", "-01", "501", "-501", "510", "600", "999", "1000", "0500", "-", "--1", "1-",
            "-c", "", "1000000000000", "+1", "1.0"};
        int[] faults = {1, 1, 2, 2, 2, 3, 2, 2, 2, 3, 1, 1, 1, 1, 1, 0, 3, 0, 1};
        for (int i = 0; i < bad.length; i++) {
            Due.is("first: " + bad[i], Calls.faultOf(bad[i] + ",0,0"), faults[i]);
            Due.is("last: " + bad[i], Calls.faultOf("0,0," + bad[i] + ";0,0,0"), 4 + faults[i]);
        }
        Due.is("5000", Calls.faultOf("5000,0,0"), 3);
        Due.is("4999", Calls.faultOf("4999,0,0"), 3);
    }

    private static void faultsOfTicks() {
        Due.is("empty", Calls.faultOf(""), 0);
        String early = "-12,-3,-4c;";
        for (int length = 1; length < 9; length++) {
            Due.is("ends too early: " + early.substring(0, length), Calls.faultOf(early.substring(0, length)), length);
        }
        Due.is("a tick", Calls.faultOf("-12,-3,-4"), -6);
        Due.is("a tick, closed", Calls.faultOf("-12,-3,-4c"), -6);
        Due.is("behind a semicolon", Calls.faultOf("-12,-3,-4c;"), 11);
        Due.is("two ticks", Calls.faultOf("1,2,3;4,5,6"), -6);
        Due.is("three ticks", Calls.faultOf("1,2,3c;4,5,6;7,8,9c"), -6);
        String[] bad = {"1;2", "1,2;", "1,2,3,", "1c", "1,2c", "1,2,c", "1,2,3cc", "1,2,3c1", "1,2,3c-", "1,2,3c,",
            ",", ";", "c", "1,,", "1,2,;", "1,2,3;;", "1,2,3;c", "1,2,3;,", "1,2,3;4;", "1,2,3;4,5c", "1,2,3c;4,5,6c7",
            "1,2,3;04", "1,2,3;501", "1,2,3;4,5,6,7"};
        int[] faults = {1, 3, 5, 1, 3, 4, 6, 6, 6, 6,
            0, 0, 0, 2, 4, 6, 6, 6, 7, 9, 13,
            7, 8, 11};
        for (int i = 0; i < bad.length; i++) {
            Due.is(bad[i], Calls.faultOf(bad[i]), faults[i]);
        }
    }

    private static void faultsOfOtherCharacters() {
        String ahead = "1,2,3";
        for (char code = 33; code <= 126; code++) {
            boolean isOfTexts = code >= '0' && code <= '9' || code == '-' || code == ',' || code == ';' || code == 'c';
            if (!isOfTexts) {
                Due.is("first: " + code, Calls.faultOf(code + ",0,0"), 0);
                Due.is("behind a digit: " + code, Calls.faultOf("1" + code), 1);
                Due.is("behind a tick: " + code, Calls.faultOf(ahead + code), 5);
                Due.is("behind a closed tick: " + code, Calls.faultOf(ahead + "c" + code), 6);
                Due.is("behind a semicolon: " + code, Calls.faultOf(ahead + ";" + code), 6);
            }
        }
        Due.is("the first fault of two", Calls.faultOf("1x2x"), 1);
    }

    private static void run() {
        VotedCharge unit = new VotedCharge();
        unit.set(VotedCharge.DELAY, 1);
        Calls.putAll(unit, "-3,-2,-1;0,-0,3;70,80,90c;70,80,90;-500,500,-7");
        Due.is("fault", unit.fault(), -6);
        Due.is("the stages of all the ticks", unit.run(), 3);
        Due.is("ticks", unit.count(0), 5);
        Due.is("the pad is empty", unit.count(14), 0);
        int[][] rows = {{99997, 99998, 99999, 0}, {100000, 100000, 100003, 0}, {100070, 100080, 100090, 1},
            {100070, 100080, 100090, 0}, {99500, 100500, 99993, 0}};
        for (int place = 0; place < rows.length; place++) {
            for (int i = 0; i < 4; i++) {
                Due.is("record(" + place + ", " + (i + 1) + ")", unit.record(place, i + 1), rows[place][i]);
            }
        }
        Due.is("stage 0", unit.stage(0, 0), 2);
        Due.is("stage 1", unit.stage(1, 0), 3);
        Calls.putAll(unit, "1,1,1");
        Due.is("none fires", unit.run(), 0);
    }

    private static void runIsTheSameAsTicks() {
        VotedCharge one = new VotedCharge();
        VotedCharge two = new VotedCharge();
        Calls.putAll(one, "1,2,3;60,-61,500c;10,100,150;150,150,150c;0,0,0;150,149,148c;9,9,9");
        int fired = two.tick(1, 2, 3, false) | two.tick(60, -61, 500, true) | two.tick(10, 100, 150, false)
            | two.tick(150, 150, 150, true) | two.tick(0, 0, 0, false) | two.tick(150, 149, 148, true)
            | two.tick(9, 9, 9, false);
        Due.is("the stages", one.run(), fired);
        Due.is("the state", Calls.look(one).equals(Calls.look(two)) ? 1 : 0, 1);
    }

    private static void runIsOneChange() {
        VotedCharge unit = new VotedCharge();
        String before = Calls.look(unit);
        Calls.putAll(unit, "1,2,3;100,100,100c;5,5,5");
        Due.is("run", unit.run(), 1);
        Due.is("one change", unit.count(15), 1);
        Due.is("undo", unit.undo(), 0);
        Due.is("as before", Calls.look(unit).equals(before) ? 1 : 0, 1);
        Due.is("the pad does not come back", unit.count(14), 0);
    }

    private static void runErrors() {
        VotedCharge unit = new VotedCharge();
        Due.is("run of an empty pad", unit.run(), -3);
        Calls.putAll(unit, "100,100,100c;1,");
        Due.is("run of a pad that ends too early", unit.run(), -3);
        Due.is("the pad stays", unit.count(14), 15);
        Due.is("no tick has passed", unit.count(0), 0);
        Due.is("no change", unit.count(15), 0);
        Calls.putAll(unit, "2,3");
        Due.is("mended", unit.run(), 1);
        Due.is("two ticks have passed", unit.count(0), 2);
        Due.is("run again", unit.run(), -3);
    }

    private static void runOfAFullPad() {
        VotedCharge unit = new VotedCharge();
        Calls.putAll(unit, "0,0,0;1,1,1;0,0,0;1,1,1;0,0,0;1,1,1;0,0,0;1,1,1;0,0,0;1,1,1;0,0,0;1,1,1;99,99,9c");
        Due.is("80 characters", unit.count(14), 80);
        Due.is("13 ticks", unit.run(), 1);
        Due.is("13 ticks have passed", unit.count(0), 13);
        Due.is("the recorder has 12", unit.record(0, 0), 1);
    }

    private TextTest() {
    }
}
