import java.util.Arrays;

/** Promise 3: a key takes bytes until it has 32 or has made a stamp. */
public final class OctetTest {
    public static void main(String[] args) {
        eachLength();
        noKey();
        closedByItsStampOnly();
        openAfterRefusalAndCheck();
        Due.end();
    }

    private static byte[] someBytes(int count) {
        byte[] bytes = new byte[count];
        for (int i = 0; i < count; i++) bytes[i] = (byte) (37 * i - 128);
        return bytes;
    }

    private static void eachLength() {
        for (int count = 0; count <= 35; count++) {
            StampMaker x = new StampMaker();
            x.key(0, 100);
            byte[] given = someBytes(count);
            Stamps.giveOctets(x, 0, given);
            x.make(0, 5, 6, 7);
            byte[] kept = Arrays.copyOf(given, Math.min(count, 32));
            Due.is(count + " bytes", Stamps.latest(x), Stamps.letters(kept, 0, 6, 5, 7, 0));
        }
    }

    private static void noKey() {
        StampMaker x = new StampMaker();
        x.octet(0, (byte) 9);
        x.key(0, 100);
        for (int k : new int[] {-1, 1, 14, 15, 16, Integer.MIN_VALUE, Integer.MAX_VALUE}) x.octet(k, (byte) 9);
        x.make(0, 1, 0, 0);
        Due.is("bytes of no key", Stamps.latest(x), Stamps.letters(Stamps.bytes(), 0, 0, 1, 0, 0));
    }

    private static void closedByItsStampOnly() {
        StampMaker x = new StampMaker();
        x.key(0, 100);
        x.key(0, 100);
        x.octet(0, (byte) 1);
        x.make(0, 1, 0, 0);
        x.octet(0, (byte) 2);
        x.octet(1, (byte) 3);
        x.make(0, 1, 0, 0);
        Due.is("a byte behind the key's stamp", Stamps.latest(x), Stamps.letters(Stamps.bytes(1), 0, 0, 1, 0, 1));
        x.make(1, 1, 0, 0);
        Due.is("a byte behind another key's stamp", Stamps.latest(x), Stamps.letters(Stamps.bytes(3), 1, 0, 1, 0, 2));
    }

    private static void openAfterRefusalAndCheck() {
        StampMaker x = new StampMaker();
        x.key(5, 100);
        x.make(0, 0, 0, 5);
        x.make(0, 1, 0, 4);
        Due.is("check of a stamp not made", Stamps.check(x, Stamps.letters(Stamps.bytes(), 0, 0, 1, 5, 0), 5), 1);
        x.octet(0, (byte) 7);
        x.make(0, 1, 0, 5);
        Due.is("a byte behind refusals", Stamps.latest(x), Stamps.letters(Stamps.bytes(7), 0, 0, 1, 5, 0));
    }
}
