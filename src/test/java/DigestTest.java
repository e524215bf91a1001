/** Promise 10: the digest is the one that was reckoned latest, by make, or by check from reason 4 on. */
public final class DigestTest {
    private static final byte[] BYTES = Stamps.bytes(0, 255, 127, 128, 1);

    public static void main(String[] args) {
        StampMaker x = new StampMaker();
        x.key(100, 300);
        Stamps.giveOctets(x, 0, BYTES);
        x.check(150);
        x.make(0, 0, 0, 150);
        Stamps.check(x, "F".repeat(16), 150);
        for (int i : new int[] {0, 31}) Due.noDigest(x, i);
        x.make(0, 5, 6, 150);
        String letters = Stamps.latest(x);
        String good = Stamps.hex(Stamps.digest(BYTES, 0, 6, 5, 150, 0));
        Due.is("behind make", Stamps.latestDigest(x), good);
        for (int i : new int[] {-1, 32, 33, 64, Integer.MIN_VALUE, Integer.MAX_VALUE}) Due.noDigest(x, i);
        Due.is("behind exceptions", Stamps.latestDigest(x), good);

        behind(x, "reason 1", "0", 150, -2, good);
        behind(x, "reason 2", "I".repeat(16), 150, -3, good);
        behind(x, "reason 3", Stamps.letters(BYTES, 1, 0, 1, 150, 0), 150, -4, good);
        behind(x, "reason 3 (kind)", Stamps.letters(BYTES, 0, 10, 1, 150, 0), 150, -4, good);
        String other = Stamps.letters(BYTES, 0, 1, 2, 160, 3);
        behind(x, "reason 4", Stamps.altered(other, 11), 150, -5, Stamps.hex(Stamps.digest(BYTES, 0, 1, 2, 160, 3)));
        behind(x, "reason 5", letters, 149, -6, good);
        behind(x, "acceptance", other, 160, 1, Stamps.hex(Stamps.digest(BYTES, 0, 1, 2, 160, 3)));
        x.refund(0);
        behind(x, "reason 7", letters, 150, -8, good);
        behind(x, "reason 6", other, 160, -7, Stamps.hex(Stamps.digest(BYTES, 0, 1, 2, 160, 3)));
        x.make(0, 1, 0, 99);
        x.key(0, 1);
        x.type('0');
        x.check(-1);
        Due.is("behind other calls", Stamps.latestDigest(x), Stamps.hex(Stamps.digest(BYTES, 0, 1, 2, 160, 3)));
        byCheckAlone();
        Due.end();
    }

    private static void behind(StampMaker x, String what, String letters, long day, int answer, String digest) {
        Due.is("check for " + what, Stamps.check(x, letters, day), answer);
        Due.is("behind " + what, Stamps.latestDigest(x), digest);
    }

    private static void byCheckAlone() {
        StampMaker x = new StampMaker();
        x.key(0, 9);
        Due.is("check", Stamps.check(x, "00001" + "0".repeat(11), 5), -5);
        Due.is("behind a check alone", Stamps.latestDigest(x), Stamps.hex(Stamps.digest(Stamps.bytes(), 0, 0, 1, 0, 0)));
        Due.is("letter(0)", x.letter(0), 0);
    }
}
