import java.util.Arrays;

public final class Promise03OctetTest {
    public static void main(String[] args) {
        all();
        Due.end();
    }

    static void all() {
        Sentence.under("Promise 3: octet");
        Sentence.test("A byte more of a key", "the least, the greatest and those around 0", Promise03OctetTest::bytes);
        Sentence.test("A byte more of a key", "in the order in which they came", Promise03OctetTest::order);
        Sentence.test("A byte more of a key", "of that key alone", Promise03OctetTest::thatKeyAlone);
        Sentence.test("no such key", "no key at all", Promise03OctetTest::noKeyAtAll);
        Sentence.test("no such key", "-1 and the next key's number are outside, 0 and the last inside",
            Promise03OctetTest::nextNumber);
        Sentence.test("no such key", "15 when there are fifteen", Promise03OctetTest::fifteen);
        Sentence.test("no such key", "numbers that would be 0 when cut to 4, 8 or 16 bits, and the extremes",
            Promise03OctetTest::farNumbers);
        Sentence.test("it has 32", "the 32nd is taken, the 33rd is not", Promise03OctetTest::thirtyTwo);
        Sentence.test("it has 32", "another key takes its bytes then", Promise03OctetTest::fullAlone);
        Sentence.test("made a stamp", "a byte before the stamp is taken, a byte behind it is not",
            Promise03OctetTest::behindItsStamp);
        Sentence.test("made a stamp", "another key's stamp is none of this one's", Promise03OctetTest::anotherKeysStamp);
        Sentence.test("made a stamp", "a make that was refused made none", Promise03OctetTest::behindRefusals);
        Sentence.test("made a stamp", "a check made none, whatever it answered", Promise03OctetTest::behindChecks);
    }

    private static void isTheStamp(Maker x, Stamp stamp) {
        Due.is("make", x.make(stamp), 16);
        Due.is("its letters", x.letters(), stamp.letters());
        Due.is("its digest", x.digestText(), stamp.digestText());
    }

    private static void bytes() {
        for (int b : new int[] {-128, -127, -1, 0, 1, 127}) {
            Maker x = new Maker().keys(1);
            x.octet(0, (byte) b);
            isTheStamp(x, Stamp.LEAST.withBytes((byte) b));
        }
    }

    private static void order() {
        byte[] bytes = {3, 1, 2, -7, 0};
        Maker x = new Maker().keys(1);
        x.octets(0, bytes);
        isTheStamp(x, Stamp.LEAST.withBytes(bytes));
    }

    private static void thatKeyAlone() {
        Maker x = new Maker().keys(3);
        x.octet(1, (byte) 5);
        isTheStamp(x, Stamp.LEAST);
        isTheStamp(x, Stamp.LEAST.withKey(1).withSerial(1).withBytes((byte) 5));
        isTheStamp(x, Stamp.LEAST.withKey(2).withSerial(2));
    }

    private static void noKeyAtAll() {
        Maker x = new Maker();
        x.octet(0, (byte) 9);
        x.keys(1);
        isTheStamp(x, Stamp.LEAST);
    }

    private static void nextNumber() {
        Maker x = new Maker().keys(2);
        x.octet(-1, (byte) 9);
        x.octet(2, (byte) 9);
        x.octet(0, (byte) 1);
        x.octet(1, (byte) 2);
        x.keys(1);
        isTheStamp(x, Stamp.LEAST.withBytes((byte) 1));
        isTheStamp(x, Stamp.LEAST.withKey(1).withSerial(1).withBytes((byte) 2));
        isTheStamp(x, Stamp.LEAST.withKey(2).withSerial(2));
    }

    private static void fifteen() {
        Maker x = new Maker().keys(15);
        x.octet(15, (byte) 9);
        x.octet(14, (byte) 4);
        isTheStamp(x, Stamp.LEAST);
        isTheStamp(x, Stamp.LEAST.withKey(14).withSerial(1).withBytes((byte) 4));
    }

    private static void farNumbers() {
        Maker x = new Maker().keys(1);
        for (int k : new int[] {16, 256, 65536, -16, -65536, Integer.MIN_VALUE, Integer.MAX_VALUE}) x.octet(k, (byte) 9);
        isTheStamp(x, Stamp.LEAST);
    }

    private static void thirtyTwo() {
        byte[] given = new byte[40];
        for (int i = 0; i < given.length; i++) given[i] = (byte) (37 * i - 128);
        for (int count : new int[] {0, 1, 31, 32, 33, 34, 40}) {
            Maker x = new Maker().keys(1);
            x.octets(0, Arrays.copyOf(given, count));
            isTheStamp(x, Stamp.LEAST.withBytes(Arrays.copyOf(given, Math.min(count, 32))));
        }
    }

    private static void fullAlone() {
        Maker x = new Maker().keys(2);
        x.octets(0, new byte[33]);
        x.octet(1, (byte) 6);
        isTheStamp(x, Stamp.LEAST.withKey(1).withBytes((byte) 6));
    }

    private static void behindItsStamp() {
        Maker x = new Maker().keys(1);
        x.octet(0, (byte) 1);
        isTheStamp(x, Stamp.LEAST.withBytes((byte) 1));
        x.octet(0, (byte) 2);
        isTheStamp(x, Stamp.LEAST.withSerial(1).withBytes((byte) 1));
        Due.is("check of the first", x.check(Stamp.LEAST.withBytes((byte) 1)), 1);
    }

    private static void anotherKeysStamp() {
        Maker x = new Maker().keys(2);
        isTheStamp(x, Stamp.LEAST);
        x.octet(1, (byte) 3);
        isTheStamp(x, Stamp.LEAST.withKey(1).withSerial(1).withBytes((byte) 3));
    }

    private static void behindRefusals() {
        Maker x = new Maker();
        x.key(5, 5);
        Due.is("a make that is OUTSIDE", x.make(0, 0, 0, 5), StampMaker.OUTSIDE);
        Due.is("a make that is STATE", x.make(0, 1, 0, 4), StampMaker.STATE);
        x.octet(0, (byte) 7);
        isTheStamp(x, Stamp.LEAST.withDay(5).withBytes((byte) 7));
    }

    private static void behindChecks() {
        Maker x = new Maker().keys(1);
        Due.is("check of a stamp that nobody made", x.check(Stamp.LEAST.withSerial(9)), 1);
        Due.is("the same again", x.check(Stamp.LEAST.withSerial(9)), -7);
        Due.is("one with other bits", x.check(Stamp.LEAST.lettersUnsealed(), 0), -5);
        x.octet(0, (byte) 7);
        isTheStamp(x, Stamp.LEAST.withBytes((byte) 7));
    }
}
