/** Promise 4: a stamp has the next serial number; the refusals come in their order and change nothing. */
public final class MakeTest {
    public static void main(String[] args) {
        made();
        refused();
        order();
        room();
        Due.end();
    }

    private static void made() {
        StampMaker x = new StampMaker();
        byte[] bytes = Stamps.bytes(1, 255, 128, 0);
        x.key(0, 65535);
        x.key(0, 65535);
        Stamps.giveOctets(x, 1, bytes);
        int[][] all = {{1, 0, 0}, {99999, 9, 65535}, {65536, 5, 32768}, {77777, 3, 1}, {2, 8, 255}};
        for (int serial = 0; serial < all.length; serial++) {
            int value = all[serial][0], kind = all[serial][1], day = all[serial][2];
            Due.is("make", x.make(1, value, kind, day), 16);
            Due.is("its letters", Stamps.latest(x), Stamps.letters(bytes, 1, kind, value, day, serial));
            Due.is("its digest", Stamps.latestDigest(x), Stamps.hex(Stamps.digest(bytes, 1, kind, value, day, serial)));
            Due.is("serial() behind it", x.serial(), serial + 1);
        }
    }

    private static void refused() {
        StampMaker x = new StampMaker();
        x.key(10, 20);
        x.make(0, 3, 4, 15);
        String letters = Stamps.latest(x);
        String digest = Stamps.latestDigest(x);
        for (int k : new int[] {-1, 1, 15, 16, Integer.MIN_VALUE, Integer.MAX_VALUE})
            Due.is("make(" + k + ", ..)", x.make(k, 1, 0, 15), StampMaker.UNKNOWN);
        for (int value : new int[] {0, -1, 100000, 131073, Integer.MIN_VALUE, Integer.MAX_VALUE})
            Due.is("make with value " + value, x.make(0, value, 0, 15), StampMaker.OUTSIDE);
        for (int kind : new int[] {-1, 10, 16, Integer.MIN_VALUE, Integer.MAX_VALUE})
            Due.is("make with kind " + kind, x.make(0, 1, kind, 15), StampMaker.OUTSIDE);
        for (long day : new long[] {-1, 65536, 65551, (1L << 32) + 15, Long.MIN_VALUE, Long.MAX_VALUE})
            Due.is("make on day " + day, x.make(0, 1, 0, day), StampMaker.OUTSIDE);
        for (long day : new long[] {0, 9, 21, 65535})
            Due.is("make on day " + day, x.make(0, 1, 0, day), StampMaker.STATE);
        Due.is("the letters behind refusals", Stamps.latest(x), letters);
        Due.is("the digest behind refusals", Stamps.latestDigest(x), digest);
        Due.is("serial() behind refusals", x.serial(), 1);
    }

    private static void order() {
        StampMaker x = new StampMaker();
        Due.is("no key, and all outside", x.make(0, 0, 10, -1), StampMaker.UNKNOWN);
        x.key(10, 20);
        Due.is("outside, and a day on which the key does not hold", x.make(0, 0, 0, 9), StampMaker.OUTSIDE);
        Due.is("kind outside, and such a day", x.make(0, 1, 10, 21), StampMaker.OUTSIDE);
    }

    // The serial numbers end far behind the 512th call, where answers are free: this asks only for what the words say plainly.
    private static void room() {
        StampMaker x = new StampMaker();
        x.key(0, 9);
        for (int n = 0; n < 16384; n++) if (x.make(0, 1, 0, 5) != 16) Due.is("make number " + n, 0, 16);
        Due.is("the last stamp", Stamps.latest(x), Stamps.letters(Stamps.bytes(), 0, 0, 1, 5, 16383));
        Due.is("make when 16384 were made", x.make(0, 1, 0, 5), StampMaker.ROOM);
        Due.is("such a make on a wrong day", x.make(0, 1, 0, 10), StampMaker.STATE);
        Due.is("serial() when 16384 were made", x.serial(), 16384);
        Due.is("check of the last stamp", Stamps.check(x, Stamps.latest(x), 5), 1);
        Due.is("spent(16383)", x.spent(16383), 1);
        Due.is("refund(16382)", x.refund(16382), 1);
        Due.is("refund(16384)", x.refund(16384), 0);
    }
}
