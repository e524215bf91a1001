public final class Promise12SerialTest {
    public static void main(String[] args) {
        all();
        Due.end();
    }

    static void all() {
        Sentence.under("Promise 12: serial");
        Sentence.test("The next serial number", "0 when no stamp was made", () -> Due.is("serial()",
            new Maker().keys(1).serial(), 0));
        Sentence.test("The next serial number", "one more behind each stamp", Promise12SerialTest::oneMore);
        Sentence.test("The next serial number", "the greatest that an object's calls allow", Promise12SerialTest::greatest);
        Sentence.test("The next serial number", "refused makes and other calls leave it", Promise12SerialTest::otherCalls);
        Sentence.test("The next serial number", "also when it is spent before its making", Promise12SerialTest::spentBefore);
    }

    private static void oneMore() {
        Maker x = new Maker().keys(2);
        for (int n = 0; n < 200; n++) {
            Due.is("make", x.make(n % 2, 1, 0, 5), 16);
            Due.is("serial()", x.serial(), n + 1);
        }
    }

    private static void greatest() {
        Maker x = new Maker().keys(1);
        while (x.left() > 1) x.make(0, 1, 0, 0);
        Due.is("serial(), the 512th call", x.serial(), 510);
    }

    private static void otherCalls() {
        Maker x = new Maker();
        x.key(5, 9);
        x.make(0, 1, 0, 5);
        x.make(1, 1, 0, 5);
        x.make(0, 0, 0, 5);
        x.make(0, 1, 10, 5);
        x.make(0, 1, 0, 65536);
        x.make(0, 1, 0, 10);
        Due.is("serial() behind refused makes", x.serial(), 1);
        x.refund(0);
        x.check(Stamp.LEAST.withDay(5).withSerial(300));
        x.key(0, 9);
        x.octet(1, (byte) 1);
        Due.is("serial() behind other calls", x.serial(), 1);
    }

    private static void spentBefore() {
        Maker x = new Maker().keys(1);
        Due.is("check of number 0", x.check(Stamp.LEAST), 1);
        Due.is("serial()", x.serial(), 0);
        Due.is("make", x.make(Stamp.LEAST), 16);
        Due.is("its letters", x.letters(), Stamp.LEAST.letters());
        Due.is("serial() then", x.serial(), 1);
    }
}
