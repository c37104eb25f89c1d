/** Compares answers with those that are due, and ends a test. */
final class Due {
    private static int compared = 0;
    private static int wrong = 0;
    private static String about = "";
    private static int comparedAhead = 0;

    private Due() {
    }

    static void is(String call, long got, long want) {
        compared++;
        if (got != want) {
            wrong++;
            String where = about.isEmpty() ? "" : " (" + about + ")";
            System.out.println(call + " answered " + got + ", due is " + want + where);
        }
    }

    static void same(String what, String got, String want) {
        is(what + ": the same", got.equals(want) ? 1 : 0, 1);
    }

    /** Names what the comparisons that follow are about. */
    static void about(String words) {
        about = words;
        comparedAhead = compared;
    }

    /** A sentence that is named, but not tested, is wrong, too. */
    static void endOfSentence() {
        if (!about.isEmpty() && compared == comparedAhead) {
            is("comparisons", 0, 1);
        }
    }

    static int wrong() {
        return wrong;
    }

    static void end() {
        System.out.println(wrong + " of " + compared + " answers are not as due");
        if (wrong != 0 || compared == 0) {
            System.exit(1);
        }
    }
}
