/** Promise 7: a check tells the first reason of the seven, or accepts; then nothing is typed. */
public final class CheckTest {
    private static final byte[] BYTES = Stamps.bytes(10, 20, 30);

    public static void main(String[] args) {
        outside();
        letters();
        fields();
        alteredLetters();
        days();
        fates();
        order();
        forged();
        Due.end();
    }

    /** An object with a key of the three bytes that holds from day 100 to day 300. */
    private static StampMaker ready() {
        StampMaker x = new StampMaker();
        x.key(100, 300);
        Stamps.giveOctets(x, 0, BYTES);
        return x;
    }

    private static void outside() {
        StampMaker x = ready();
        x.make(0, 1, 0, 150);
        Stamps.type(x, Stamps.latest(x));
        for (long day : new long[] {-1, 65536, Long.MIN_VALUE, Long.MAX_VALUE, (1L << 32) + 150})
            Due.is("check(" + day + ")", x.check(day), StampMaker.OUTSIDE);
        Due.is("what was typed stays", x.check(150), 1);
        Due.is("and then nothing is typed", x.check(150), -2);
        Due.is("those outside were not counted", x.first(2), 1);
    }

    private static void letters() {
        StampMaker x = ready();
        x.make(0, 1, 0, 150);
        String good = Stamps.latest(x);
        int[] wrong = {'I', 'O', 'Y', 'Z', 'a', 'x', 'i', ' ', '-', '/', ':', '@', '[', 0, -1, 31, 128, 255,
            65536 + good.charAt(0), -65536 + good.charAt(0), 256 + good.charAt(0), Integer.MIN_VALUE, Integer.MAX_VALUE};
        for (int c : wrong) {
            for (int place = 0; place < 16; place += 5) {
                Stamps.type(x, good.substring(0, place));
                x.type(c);
                Stamps.type(x, good.substring(place + 1));
                Due.is("letter " + c + " at " + place, x.check(150), -3);
            }
        }
        Due.is("none at all", x.check(150), -2);
        Due.is("fifteen", Stamps.check(x, good.substring(1), 150), -2);
        Due.is("seventeen", Stamps.check(x, good + "0", 150), -2);
        Due.is("sixteen", Stamps.check(x, good, 150), 1);
    }

    private static void fields() {
        StampMaker x = ready();
        x.key(0, 65535);
        for (int key = 2; key <= 15; key++)
            Due.is("key " + key, Stamps.check(x, Stamps.letters(BYTES, key, 0, 1, 150, 0), 150), -4);
        for (int kind = 10; kind <= 15; kind++)
            Due.is("kind " + kind, Stamps.check(x, Stamps.letters(BYTES, 0, kind, 1, 150, 0), 150), -4);
        for (int value : new int[] {0, 100000, 100001, 131071})
            Due.is("value " + value, Stamps.check(x, Stamps.letters(BYTES, 0, 0, value, 150, 0), 150), -4);
        Due.noDigest(x, 0);
        Due.is("the greatest of all", Stamps.check(x, Stamps.letters(Stamps.bytes(), 1, 9, 99999, 65535, 16383), 65535), 1);
        Due.is("the least of all", Stamps.check(x, Stamps.letters(Stamps.bytes(), 1, 0, 1, 0, 0), 0), 1);
    }

    private static void alteredLetters() {
        StampMaker x = ready();
        x.make(0, 77, 3, 150);
        String good = Stamps.latest(x);
        for (int i = 2; i < 16; i++) Due.is("letter " + i + " altered", Stamps.check(x, Stamps.altered(good, i), 150), -5);
        Due.is("another key's bytes", Stamps.check(x, Stamps.letters(Stamps.bytes(10, 20, 31), 0, 3, 77, 150, 0), 150), -5);
        Due.is("spent(0)", x.spent(0), 0);
        Due.is("unaltered", Stamps.check(x, good, 150), 1);
    }

    private static void days() {
        long[][] all = {{150, 149, -6}, {150, 150, 1}, {150, 250, 1}, {150, 251, -6}, {150, 0, -6}, {150, 65535, -6},
            {100, 99, -6}, {100, 100, 1}, {300, 300, 1}, {300, 301, -6}, {250, 300, 1}, {250, 301, -6}};
        for (long[] days : all) {
            StampMaker x = ready();
            x.make(0, 1, 0, days[0]);
            Due.is("a stamp of day " + days[0] + " on day " + days[1], Stamps.check(x, Stamps.latest(x), days[1]), days[2]);
        }
        StampMaker x = ready();
        Due.is("a stamp of a day before its key", Stamps.check(x, Stamps.letters(BYTES, 0, 0, 1, 50, 9), 120), 1);
        Due.is("such a stamp before its key", Stamps.check(x, Stamps.letters(BYTES, 0, 0, 1, 50, 10), 60), -6);
    }

    private static void fates() {
        StampMaker x = ready();
        x.make(0, 1, 0, 150);
        String first = Stamps.latest(x);
        x.make(0, 1, 0, 150);
        String second = Stamps.latest(x);
        Due.is("the first", Stamps.check(x, first, 150), 1);
        Due.is("the first again", Stamps.check(x, first, 150), -7);
        Due.is("another stamp with its serial number", Stamps.check(x, Stamps.letters(BYTES, 0, 5, 9, 150, 0), 150), -7);
        Due.is("refund(1)", x.refund(1), 1);
        Due.is("the second", Stamps.check(x, second, 150), -8);
        Due.is("the second again", Stamps.check(x, second, 150), -8);
        Due.is("spent(1)", x.spent(1), 2);
    }

    private static void order() {
        StampMaker x = ready();
        x.make(0, 1, 0, 150);
        String good = Stamps.latest(x);
        Stamps.check(x, good, 150);
        Due.is("17, and one no letter", Stamps.check(x, good + "I", 150), -2);
        Due.is("one no letter, and no such key", Stamps.check(x, "X" + good.substring(1, 15) + "I", 150), -3);
        Due.is("no such key, and another digest", Stamps.check(x, "X" + good.substring(1), 150), -4);
        Due.is("another digest, and a wrong day", Stamps.check(x, Stamps.altered(good, 15), 90), -5);
        Due.is("a wrong day, and spent", Stamps.check(x, good, 251), -6);
        x.make(0, 1, 0, 150);
        x.refund(1);
        Due.is("a wrong day, and given back", Stamps.check(x, Stamps.latest(x), 149), -6);
    }

    // What is spent is told by serial numbers: one that nobody made is spent like the others, when the digest's bits belong.
    private static void forged() {
        StampMaker x = ready();
        String letters = Stamps.letters(BYTES, 0, 2, 500, 200, 1);
        Due.is("a stamp that nobody made", Stamps.check(x, letters, 200), 1);
        Due.is("serial()", x.serial(), 0);
        x.make(0, 1, 0, 150);
        Due.is("the stamp before its serial number", Stamps.check(x, Stamps.latest(x), 200), 1);
        x.make(0, 1, 0, 150);
        Due.is("the stamp with its serial number", Stamps.check(x, Stamps.latest(x), 201), -7);
        x.octet(0, (byte) 1);
        Due.is("the same once more", Stamps.check(x, letters, 200), -7);
    }
}
