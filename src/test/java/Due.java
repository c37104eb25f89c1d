/** Compares answers with those that are due, and ends a test. */
final class Due {
    private static int compared = 0;
    private static int wrong = 0;

    private Due() {
    }

    static void is(String call, long got, long want) {
        compared++;
        if (got != want) {
            wrong++;
            System.out.println(call + " answered " + got + ", due is " + want);
        }
    }

    static int wrong() {
        return wrong;
    }

    static void end() {
        System.out.println(wrong + " of " + compared + " answers are not as due");
        if (wrong != 0 || compared == 0) {
            System.exit(1);
        }
    }
}
