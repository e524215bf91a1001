/** Counts the answers that were looked at and those that were not as due, and ends a test program by them. */
final class Due {
    private static int looked = 0;
    private static int wrong = 0;

    private Due() {
    }

    static void is(String call, long got, long want) {
        is(call, String.valueOf(got), String.valueOf(want));
    }

    static void is(String call, String got, String want) {
        looked++;
        if (!got.equals(want)) fails(call + " answered " + got + ", due is " + want);
    }

    static void fails(String what) {
        wrong++;
        System.out.println(what);
    }

    static int looked() {
        return looked;
    }

    static int wrong() {
        return wrong;
    }

    /** Prints what was counted; exit code 1 when something was wrong or nothing was looked at. */
    static void end() {
        System.out.println(looked + " answers looked at, " + wrong + " not as due");
        if (wrong != 0 || looked == 0) System.exit(1);
    }
}
