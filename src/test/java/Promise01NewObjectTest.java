public final class Promise01NewObjectTest {
    public static void main(String[] args) {
        all();
        Due.end();
    }

    static void all() {
        Sentence.under("Promise 1: A new object");
        Sentence.test("No keys", "no number is one of a key, for make, octet or check", Promise01NewObjectTest::noKeys);
        Sentence.test("No keys", "the first key is number 0", Promise01NewObjectTest::firstKey);
        Sentence.test("no stamps", "no letters, no digest, no serial number behind it", Promise01NewObjectTest::noStamps);
        Sentence.test("no stamps", "nothing is spent, given back or told by first", Promise01NewObjectTest::nothingSpent);
        Sentence.test("no stamps", "nothing is typed", Promise01NewObjectTest::nothingTyped);
        Sentence.test("No keys, no stamps.", "what another object has is not this one's",
            Promise01NewObjectTest::apart);
    }

    private static void noKeys() {
        Maker x = new Maker();
        for (int k = -1; k <= 16; k++) Due.is("make(" + k + ", 1, 0, 0)", x.make(k, 1, 0, 0), StampMaker.UNKNOWN);
        for (int k = 0; k <= 15; k++) Due.is("check of a stamp of key " + k, x.check(Stamp.LEAST.withKey(k)), -4);
        for (int k = 0; k <= 15; k++) x.octet(k, (byte) 9);
        x.key(0, 0);
        x.make(0, 1, 0, 0);
        Due.is("the letters of the first key's stamp", x.letters(), Stamp.LEAST.letters());
    }

    private static void firstKey() {
        Due.is("key(0, 0)", new Maker().key(0, 0), 0);
    }

    private static void noStamps() {
        Maker x = new Maker();
        for (int i = -1; i <= 16; i++) Due.is("letter(" + i + ")", x.letter(i), 0);
        for (int i = -1; i <= 32; i++) x.hasNoDigest(i);
        Due.is("serial()", x.serial(), 0);
    }

    private static void nothingSpent() {
        Maker x = new Maker();
        for (long serial : new long[] {0, 1, 16383}) {
            Due.is("spent(" + serial + ")", x.spent(serial), 0);
            Due.is("refund(" + serial + ")", x.refund(serial), 0);
        }
        Due.is("what first tells", x.told(), "-1 -1 -1");
    }

    private static void nothingTyped() {
        Due.is("check(0)", new Maker().check(0), -2);
        Maker x = new Maker().keys(1);
        Due.is("check of sixteen letters", x.check(Stamp.LEAST), 1);
    }

    private static void apart() {
        Maker used = new Maker().keys(3);
        used.octet(0, (byte) 1);
        used.make(1, 1, 0, 0);
        used.check(Stamp.LEAST.withKey(1));
        used.type("012");
        Maker x = new Maker();
        Due.is("letter(0)", x.letter(0), 0);
        Due.is("the digest", x.digestText(), "none");
        Due.is("serial()", x.serial(), 0);
        Due.is("spent(0)", x.spent(0), 0);
        Due.is("what first tells", x.told(), "-1 -1 -1");
        Due.is("key(0, 0)", x.key(0, 0), 0);
        Due.is("check", x.check(Stamp.LEAST), 1);
        Due.is("what first tells then", x.told(), "0 0 1");
    }
}
