public final class WhatItIsTest {
    private static final Stamp STAMP = Stamp.LEAST.withKind(3).withValue(500).withDay(50);

    public static void main(String[] args) {
        all();
        Due.end();
    }

    static void all() {
        Sentence.under("What it is");
        Sentence.test("Stamps that are rows of letters: value, kind, day, serial number, key and a digest",
            "sixteen of them, typed again as they were told", WhatItIsTest::rows);
        Sentence.test("a digest that only the key tells", "the same fields under other bytes", WhatItIsTest::onlyTheKeyTells);
        Sentence.test("each is accepted once", "the second time it is not", WhatItIsTest::acceptedOnce);
        Sentence.test("each is accepted once", "also when another one was accepted between", WhatItIsTest::acceptedOnceEach);
        Sentence.test("or given back once", "the second time it is not", WhatItIsTest::givenBackOnce);
        Sentence.test("or given back once", "accepted or given back, not both", WhatItIsTest::notBoth);
        Sentence.test("what was altered is refused", "each of the 80 bits", WhatItIsTest::eachBitAltered);
        Sentence.test("unless it has the 25 bits of the digest that belong to what it says now",
            "each field altered, with such bits",
            WhatItIsTest::alteredWithItsBits);
        Sentence.test("at most 512 calls after it has been made; what later calls answer is free",
            "the 512th is answered as promised, whichever it is", WhatItIsTest::lastCall);
    }

    private static void rows() {
        Maker x = new Maker().keys(1);
        Due.is("make", x.make(STAMP), 16);
        Due.is("check", x.check(x.letters(), 50), 1);
    }

    private static void onlyTheKeyTells() {
        Maker x = new Maker().keys(1);
        x.octets(0, (byte) 10, (byte) 20);
        x.make(STAMP);
        Due.is("other bytes", x.check(STAMP.withBytes((byte) 10, (byte) 21)), -5);
        Due.is("a byte less", x.check(STAMP.withBytes((byte) 10)), -5);
        Due.is("a byte more", x.check(STAMP.withBytes((byte) 10, (byte) 20, (byte) 0)), -5);
        Due.is("the key's bytes", x.check(STAMP.withBytes((byte) 10, (byte) 20)), 1);
    }

    private static void acceptedOnce() {
        Maker x = new Maker().keys(1);
        x.make(STAMP);
        Due.is("check", x.check(STAMP), 1);
        Due.is("check again", x.check(STAMP), -7);
        Due.is("check a third time", x.check(STAMP), -7);
    }

    private static void acceptedOnceEach() {
        Maker x = new Maker().keys(1);
        x.make(STAMP);
        x.make(STAMP);
        Due.is("check of the first", x.check(STAMP), 1);
        Due.is("check of the second", x.check(STAMP.withSerial(1)), 1);
        Due.is("check of the first again", x.check(STAMP), -7);
        Due.is("check of the second again", x.check(STAMP.withSerial(1)), -7);
    }

    private static void givenBackOnce() {
        Maker x = new Maker().keys(1);
        x.make(STAMP);
        Due.is("refund", x.refund(0), 1);
        Due.is("refund again", x.refund(0), 0);
    }

    private static void notBoth() {
        Maker x = new Maker().keys(1);
        x.make(STAMP);
        x.make(STAMP);
        Due.is("check of the first", x.check(STAMP), 1);
        Due.is("refund of the first", x.refund(0), 0);
        Due.is("refund of the second", x.refund(1), 1);
        Due.is("check of the second", x.check(STAMP.withSerial(1)), -8);
    }

    private static void eachBitAltered() {
        for (int bit = 0; bit < 80; bit++) {
            Maker x = new Maker().keys(15);
            x.make(STAMP);
            int answer = x.check(STAMP.lettersWithout(bit), 50);
            // Bit 4 makes a kind 11 of 3; all other bits leave every field as said.
            Due.is("check without bit " + bit, answer, bit == 4 ? -4 : -5);
            Due.is("spent(0)", x.spent(0), 0);
            Due.is("check unaltered", x.check(STAMP), 1);
        }
    }

    private static void alteredWithItsBits() {
        Stamp[] altered = {STAMP.withKey(1), STAMP.withKind(4), STAMP.withValue(501), STAMP.withDay(49), STAMP.withSerial(9)};
        for (Stamp other : altered) {
            Maker x = new Maker().keys(2);
            x.make(STAMP);
            String mixed = other.letters().substring(0, Stamp.SEAL) + STAMP.letters().substring(Stamp.SEAL);
            Due.is("check with the bits of what it said", x.check(mixed, 50), -5);
            Due.is("check with the bits of what it says", x.check(other.letters(), 50), 1);
        }
    }

    private static Maker beforeItsLastCall() {
        Maker x = new Maker();
        Twins.used(x);
        while (x.left() > 1) x.serial();
        return x;
    }

    private static void lastCall() {
        Due.is("key", beforeItsLastCall().key(0, 9), 3);
        Due.is("make", beforeItsLastCall().make(1, 1, 0, 0), 16);
        Due.is("letter(15)", beforeItsLastCall().letter(15), new Stamp(new byte[32], 1, 3, 10, 50, 3).letters().charAt(15));
        Due.is("check", beforeItsLastCall().check(60), 1);
        Due.is("first(2)", beforeItsLastCall().first(2), 1);
        Due.is("refund(2)", beforeItsLastCall().refund(2), 1);
        Due.is("digest(31)", beforeItsLastCall().digest(31), new Stamp(new byte[32], 1, 3, 10, 50, 1).digest()[31]);
        beforeItsLastCall().hasNoDigest(32);
        Due.is("spent(0)", beforeItsLastCall().spent(0), 1);
        Due.is("serial()", beforeItsLastCall().serial(), 4);
        Due.is("key that is OUTSIDE", beforeItsLastCall().key(-1, 9), StampMaker.OUTSIDE);
    }
}
