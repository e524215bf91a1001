/**
 * Two objects with the same calls behind them, but that one of them had a call more: when that call changed nothing, all
 * that can be asked of the two has the same answers from then on.
 */
final class Twins {
    interface Step {
        void on(Maker x);
    }

    /** The days on which keys are asked whether they hold: around those of the keys of used. */
    private static final int[] DAYS = {99, 100, 300, 301};

    private static final Stamp MADE = new Stamp(new byte[32], 1, 3, 10, 50, 0);

    private Twins() {
    }

    /** Nothing behind it. */
    static void fresh(Maker x) {
    }

    /**
     * Keys that take bytes, have 32 of them or hold on one day only; stamps that are spent, given back and neither; a check
     * found a reason; a stamp's sixteen letters are typed.
     */
    static void used(Maker x) {
        x.key(100, 300);
        x.octets(0, (byte) 1, (byte) -2, (byte) 3);
        x.key(0, 65535);
        x.octets(1, MADE.keyBytes());
        x.key(5, 5);
        for (int serial = 0; serial < 4; serial++) x.make(MADE);
        x.check(MADE.letters(), 60);
        x.refund(1);
        x.check(MADE.withSerial(1).letters(), 60);
        x.type(MADE.withSerial(2).letters());
    }

    /** Fifteen keys, one of them with 32 bytes, and forty characters. */
    static void full(Maker x) {
        for (int k = 0; k < 15; k++) x.key(100, 300);
        x.octets(14, new byte[32]);
        x.type("0".repeat(40));
    }

    /** The same on each of the three. */
    static void unchangedEverywhere(Step call) {
        unchanged(Twins::fresh, call);
        unchanged(Twins::used, call);
        unchanged(Twins::full, call);
    }

    static void unchanged(Step before, Step call) {
        Maker with = new Maker();
        before.on(with);
        call.on(with);
        Maker without = new Maker();
        before.on(without);
        Due.is("all that is asked behind the call", everything(with), everything(without));
    }

    private static String everything(Maker x) {
        StringBuilder seen = new StringBuilder();
        looks(x, seen);
        checks(x, seen);
        refunds(x, seen);
        keys(x, seen);
        return seen.toString();
    }

    private static void looks(Maker x, StringBuilder seen) {
        seen.append("\nletters ").append(x.letters()).append(", digest ").append(x.digestText());
        seen.append(", told ").append(x.told()).append(", serial ").append(x.serial()).append(", spent");
        for (int serial = 0; serial < 5; serial++) seen.append(' ').append(x.spent(serial));
    }

    /** What is typed shows in the first check, the number of checks in what first tells behind the second. */
    private static void checks(Maker x, StringBuilder seen) {
        seen.append("\ncheck ").append(x.check(60)).append(", told ").append(x.told());
        int key = x.key(60, 70);
        seen.append(", key ").append(key);
        seen.append(", check ").append(x.check(Stamp.LEAST.withKey(Math.max(key, 0)).withDay(60).withSerial(9).letters(), 60));
        seen.append(", told ").append(x.told());
    }

    private static void refunds(Maker x, StringBuilder seen) {
        seen.append("\nrefund");
        for (int serial = 0; serial < 5; serial++) seen.append(' ').append(x.refund(serial));
    }

    /** A byte that a key still takes, the days on which it holds, and its bytes show in the stamps that it makes. */
    private static void keys(Maker x, StringBuilder seen) {
        for (int key = 0; key < 15; key++) {
            seen.append("\nkey ").append(key).append(" makes");
            x.octet(key, (byte) 77);
            for (int day : DAYS) seen.append(' ').append(x.make(key, 1, 0, day));
            seen.append(", seal ");
            for (int i = Stamp.SEAL; i < 16; i++) seen.append((char) x.letter(i));
        }
    }
}
