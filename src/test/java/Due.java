/** Counts the answers that are not as due, and ends a test by them. */
final class Due {
    private static int calls = 0;
    private static int wrong = 0;

    private Due() {
    }

    static void is(String call, long got, long want) {
        calls++;
        if (got == want) return;
        wrong++;
        System.out.println(call + " answered " + got + ", due is " + want);
    }

    static void is(String call, String got, String want) {
        calls++;
        if (got.equals(want)) return;
        wrong++;
        System.out.println(call + " answered " + got + ", due is " + want);
    }

    /** digest(i) must throw just the exception that the document names. */
    static void noDigest(StampMaker x, int i) {
        Class<?> thrown = null;
        try {
            x.digest(i);
        } catch (RuntimeException e) {
            thrown = e.getClass();
        }
        is("digest(" + i + ") throws", String.valueOf(thrown), String.valueOf(ArrayIndexOutOfBoundsException.class));
    }

    /** Prints what was counted; exit code 1 when something was wrong or nothing was asked. */
    static void end() {
        System.out.println(calls + " answers looked at, " + wrong + " not as due");
        if (wrong != 0 || calls == 0) System.exit(1);
    }
}
