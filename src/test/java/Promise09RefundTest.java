public final class Promise09RefundTest {
    private static final Stamp STAMP = Stamp.LEAST.withDay(5);

    public static void main(String[] args) {
        all();
        Due.end();
    }

    static void all() {
        Sentence.under("Promise 9: refund");
        Sentence.test("is given back: 1", "0 is the first that can be, -1 none", () -> edge(0, -1));
        Sentence.test("is given back: 1", "the latest that was made can be, the next one not", () -> edge(2, 3));
        Sentence.test("is given back: 1", "each of many, and it is made no other", Promise09RefundTest::many);
        Sentence.test("made by nobody", "no stamp at all", () -> nobodys(new Maker().keys(1), 0, 1, 16383, 16384));
        Sentence.test("made by nobody", "the greatest serial number, and one more", () -> nobodys(ready(), 16383, 16384));
        Sentence.test("made by nobody", "numbers that were made when cut to 14, 16 or 32 bits, and the extremes", () ->
            nobodys(ready(), 16384 + 1, 65536 + 1, (1L << 32) + 1, -(1L << 32) + 1, -16384 + 1, Long.MIN_VALUE,
                Long.MIN_VALUE + 1, Long.MAX_VALUE));
        Sentence.test("made by nobody", "a refused make made none", Promise09RefundTest::behindRefusals);
        Sentence.test("made by nobody", "and is spent, by a stamp whose digest's bits belong",
            Promise09RefundTest::nobodysAndSpent);
        Sentence.test("is spent", "it stays spent", Promise09RefundTest::spent);
        Sentence.test("is spent", "by another stamp with its serial number, before or behind its making",
            Promise09RefundTest::spentByAnother);
        Sentence.test("is spent", "a check that was refused spent none", Promise09RefundTest::notSpentByRefusedChecks);
        Sentence.test("or was given back", "the second time, and behind a check", Promise09RefundTest::again);
    }

    private static Maker ready() {
        Maker x = new Maker().keys(1);
        for (int n = 0; n < 3; n++) x.make(STAMP);
        return x;
    }

    private static void edge(int inside, int outside) {
        Maker x = ready();
        Due.is("refund(" + outside + ")", x.refund(outside), 0);
        Due.is("refund(" + inside + ")", x.refund(inside), 1);
        Due.is("spent(" + inside + ")", x.spent(inside), 2);
        Due.is("spent(" + outside + ")", x.spent(outside), 0);
    }

    private static void many() {
        Maker x = new Maker().keys(1);
        for (int n = 0; n < 100; n++) x.make(STAMP);
        for (int n = 99; n >= 0; n--) Due.is("refund(" + n + ")", x.refund(n), 1);
        for (int n = 0; n < 100; n++) Due.is("spent(" + n + ")", x.spent(n), 2);
        Due.is("serial()", x.serial(), 100);
    }

    private static void nobodys(Maker x, long... serials) {
        for (long serial : serials) Due.is("refund(" + serial + ")", x.refund(serial), 0);
        for (int serial = 0; serial < 3; serial++) Due.is("spent(" + serial + ")", x.spent(serial), 0);
    }

    private static void behindRefusals() {
        Maker x = new Maker();
        x.key(0, 5);
        x.make(1, 1, 0, 0);
        x.make(0, 0, 0, 0);
        x.make(0, 1, 0, 6);
        Due.is("refund(0)", x.refund(0), 0);
        x.make(0, 1, 0, 5);
        Due.is("refund(0) when it was made", x.refund(0), 1);
    }

    private static void nobodysAndSpent() {
        Maker x = ready();
        Due.is("check of number 3", x.check(STAMP.withSerial(3)), 1);
        Due.is("refund(3)", x.refund(3), 0);
        Due.is("spent(3)", x.spent(3), 1);
    }

    private static void spent() {
        Maker x = ready();
        Due.is("check", x.check(STAMP.withSerial(1)), 1);
        Due.is("refund(1)", x.refund(1), 0);
        Due.is("refund(1) again", x.refund(1), 0);
        Due.is("spent(1)", x.spent(1), 1);
        Due.is("refund(0)", x.refund(0), 1);
        Due.is("refund(2)", x.refund(2), 1);
    }

    private static void spentByAnother() {
        Maker x = ready();
        Due.is("check of another stamp with number 1", x.check(STAMP.withSerial(1).withValue(500)), 1);
        Due.is("refund(1)", x.refund(1), 0);
        Due.is("check of number 3", x.check(STAMP.withSerial(3)), 1);
        x.make(STAMP);
        Due.is("refund(3) when it was made", x.refund(3), 0);
    }

    private static void notSpentByRefusedChecks() {
        Maker x = ready();
        Due.is("check on a wrong day", x.check(STAMP.letters(), 4), -6);
        Due.is("check with other bits", x.check(STAMP.lettersUnsealed(), 5), -5);
        Due.is("check with seventeen", x.check(STAMP.letters() + "0", 5), -2);
        Due.is("check on no day", x.check(STAMP.letters(), -1), StampMaker.OUTSIDE);
        Due.is("refund(0)", x.refund(0), 1);
        Due.is("check of what was typed", x.check(5), -8);
    }

    private static void again() {
        Maker x = ready();
        Due.is("refund(1)", x.refund(1), 1);
        Due.is("refund(1) again", x.refund(1), 0);
        Due.is("check", x.check(STAMP.withSerial(1)), -8);
        Due.is("refund(1) behind a check", x.refund(1), 0);
        Due.is("spent(1)", x.spent(1), 2);
    }
}
