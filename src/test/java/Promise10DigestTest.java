public final class Promise10DigestTest {
    private static final byte[] BYTES = {0, -1, 127, -128, 1};
    private static final Stamp MADE = new Stamp(BYTES, 0, 6, 5, 150, 0);
    private static final Stamp OTHER = new Stamp(BYTES, 0, 1, 2, 160, 3);

    public static void main(String[] args) {
        all();
        Due.end();
    }

    static void all() {
        Sentence.under("Promise 10: digest");
        Sentence.test("Byte i of the digest", "0 is the first inside, -1 outside", () -> edge(0, -1));
        Sentence.test("Byte i of the digest", "31 is the last inside, 32 outside", () -> edge(31, 32));
        Sentence.test("Byte i of the digest", "all of them, with their signs", Promise10DigestTest::bytes);
        Sentence.test("that was reckoned latest", "the second stamp's, not the first's", Promise10DigestTest::second);
        Sentence.test("by make", "a refused make reckons none", Promise10DigestTest::refusedMakes);
        Sentence.test("by check from reason 4 on", "reasons 4, 5, 6 and 7, and acceptance reckon",
            Promise10DigestTest::reckoningChecks);
        Sentence.test("by check from reason 4 on", "OUTSIDE and the reasons 1, 2 and 3 do not",
            Promise10DigestTest::otherChecks);
        Sentence.test("by check from reason 4 on", "a check's digest, when no stamp was made",
            Promise10DigestTest::byCheckAlone);
        Sentence.test("by check from reason 4 on", "with the key's bytes of that moment",
            Promise10DigestTest::bytesOfThatMoment);
        Sentence.test("that was reckoned latest", "other calls reckon none", Promise10DigestTest::otherCalls);
        Sentence.test("ArrayIndexOutOfBoundsException when there is none such", "no digest was reckoned",
            Promise10DigestTest::noDigest);
        Sentence.test("ArrayIndexOutOfBoundsException when there is none such", "far numbers", Promise10DigestTest::farNumbers);
    }

    /** A key that holds from day 100 to day 300; serial number 0 was made. */
    private static Maker ready() {
        Maker x = new Maker();
        x.key(100, 300);
        x.octets(0, BYTES);
        x.make(MADE);
        return x;
    }

    private static void isOf(String when, Maker x, Stamp stamp) {
        Due.is("the digest behind " + when, x.digestText(), stamp.digestText());
    }

    private static void edge(int inside, int outside) {
        Maker x = ready();
        Due.is("digest(" + inside + ")", x.digest(inside), MADE.digest()[inside]);
        x.hasNoDigest(outside);
    }

    private static void bytes() {
        Maker x = ready();
        byte[] digest = MADE.digest();
        for (int i = 0; i < 32; i++) Due.is("digest(" + i + ")", x.digest(i), digest[i]);
    }

    private static void second() {
        Maker x = ready();
        x.make(MADE);
        isOf("the second", x, MADE.withSerial(1));
    }

    private static void refusedMakes() {
        Maker x = ready();
        Due.is("UNKNOWN", x.make(1, 5, 6, 150), StampMaker.UNKNOWN);
        isOf("UNKNOWN", x, MADE);
        Due.is("OUTSIDE", x.make(0, 100000, 6, 150), StampMaker.OUTSIDE);
        isOf("OUTSIDE", x, MADE);
        Due.is("STATE", x.make(0, 5, 6, 99), StampMaker.STATE);
        isOf("STATE", x, MADE);
    }

    private static void reckoningChecks() {
        Maker x = ready();
        x.refund(0);
        Due.is("reason 4", x.check(OTHER.lettersUnsealed(), 160), -5);
        isOf("reason 4", x, OTHER);
        Due.is("reason 5", x.check(OTHER.withSerial(4).letters(), 159), -6);
        isOf("reason 5", x, OTHER.withSerial(4));
        Due.is("acceptance", x.check(OTHER), 1);
        isOf("acceptance", x, OTHER);
        Due.is("reason 7", x.check(MADE), -8);
        isOf("reason 7", x, MADE);
        Due.is("reason 6", x.check(OTHER), -7);
        isOf("reason 6", x, OTHER);
    }

    private static void otherChecks() {
        Maker x = ready();
        Due.is("OUTSIDE", x.check(OTHER.letters(), -1), StampMaker.OUTSIDE);
        isOf("OUTSIDE", x, MADE);
        Due.is("reason 1", x.check("0", 160), -2);
        isOf("reason 1", x, MADE);
        Due.is("reason 2", x.check(OTHER.lettersMisspelt(), 160), -3);
        isOf("reason 2", x, MADE);
        Due.is("reason 3 for the key", x.check(OTHER.withKey(1)), -4);
        isOf("reason 3 for the key", x, MADE);
        Due.is("reason 3 for the kind", x.check(OTHER.withKind(10)), -4);
        isOf("reason 3 for the kind", x, MADE);
        Due.is("reason 3 for a value too small", x.check(OTHER.withValue(0)), -4);
        isOf("reason 3 for a value too small", x, MADE);
        Due.is("reason 3 for a value too great", x.check(OTHER.withValue(100000)), -4);
        isOf("reason 3 for a value too great", x, MADE);
    }

    private static void byCheckAlone() {
        Maker x = new Maker().keys(1);
        Due.is("check", x.check(Stamp.LEAST.lettersUnsealed(), 0), -5);
        isOf("a check alone", x, Stamp.LEAST);
        Due.is("letter(0)", x.letter(0), 0);
    }

    private static void bytesOfThatMoment() {
        Maker x = new Maker().keys(1);
        Due.is("check", x.check(Stamp.LEAST), 1);
        x.octet(0, (byte) 8);
        isOf("a byte more", x, Stamp.LEAST);
        Due.is("the same letters", x.check(Stamp.LEAST), -5);
        isOf("the same letters", x, Stamp.LEAST.withBytes((byte) 8));
    }

    private static void otherCalls() {
        Maker x = ready();
        x.key(0, 9);
        x.octet(1, (byte) 1);
        x.letter(0);
        x.type('0');
        x.first(0);
        x.refund(0);
        x.spent(0);
        x.serial();
        x.hasNoDigest(32);
        isOf("other calls", x, MADE);
    }

    private static void noDigest() {
        Maker x = new Maker();
        for (int i : new int[] {-1, 0, 31, 32}) x.hasNoDigest(i);
        x.key(100, 300);
        x.make(0, 0, 0, 150);
        x.check(150);
        x.check(Stamp.LEAST.lettersMisspelt(), 150);
        x.check(Stamp.LEAST.withKey(1).letters(), 150);
        x.check(Stamp.LEAST.letters(), -1);
        for (int i : new int[] {-1, 0, 31, 32}) x.hasNoDigest(i);
    }

    private static void farNumbers() {
        Maker x = ready();
        for (int i : new int[] {33, 64, -32, -31, 256, 65536, Integer.MIN_VALUE, Integer.MAX_VALUE}) x.hasNoDigest(i);
        isOf("exceptions", x, MADE);
    }
}
