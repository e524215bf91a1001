public final class Promise11SpentTest {
    private static final Stamp STAMP = Stamp.LEAST.withDay(5);

    public static void main(String[] args) {
        all();
        Due.end();
    }

    static void all() {
        Sentence.under("Promise 11: spent");
        Sentence.test("0 nothing", "a stamp that was made, and what a refused check left", Promise11SpentTest::nothing);
        Sentence.test("0 nothing", "one that nobody made yet", Promise11SpentTest::notMadeYet);
        Sentence.test("(or none such)", "0 is inside, -1 outside", () -> edge(0, -1));
        Sentence.test("(or none such)", "16383 is inside, 16384 outside", () -> edge(16383, 16384));
        Sentence.test("(or none such)", "numbers that are spent when cut to 14, 16 or 32 bits, and the extremes",
            Promise11SpentTest::noneSuch);
        Sentence.test("1 spent", "and it stays so", Promise11SpentTest::spent);
        Sentence.test("1 spent", "a serial number that nobody made", Promise11SpentTest::spentBeforeItsMaking);
        Sentence.test("2 given back", "and it stays so", Promise11SpentTest::givenBack);
        Sentence.test("a serial number", "its neighbours' fates are others", Promise11SpentTest::neighbours);
    }

    private static Maker ready() {
        Maker x = new Maker().keys(1);
        for (int n = 0; n < 3; n++) x.make(STAMP);
        return x;
    }

    private static void nothing() {
        Maker x = ready();
        for (int serial = 0; serial < 3; serial++) Due.is("spent(" + serial + ")", x.spent(serial), 0);
        Due.is("check with other bits", x.check(STAMP.lettersUnsealed(), 5), -5);
        Due.is("check on a wrong day", x.check(STAMP.letters(), 4), -6);
        Due.is("check on no day", x.check(STAMP.letters(), -1), StampMaker.OUTSIDE);
        Due.is("spent(0)", x.spent(0), 0);
    }

    private static void notMadeYet() {
        Maker x = ready();
        for (int serial : new int[] {3, 4, 16382, 16383}) Due.is("spent(" + serial + ")", x.spent(serial), 0);
    }

    private static void edge(int inside, int outside) {
        Maker x = new Maker().keys(1);
        Due.is("check", x.check(STAMP.withSerial(inside)), 1);
        Due.is("spent(" + inside + ")", x.spent(inside), 1);
        Due.is("spent(" + outside + ")", x.spent(outside), 0);
    }

    private static void noneSuch() {
        Maker x = ready();
        Due.is("check", x.check(STAMP.withSerial(1)), 1);
        long[] none = {16384 + 1, 65536 + 1, (1L << 32) + 1, -(1L << 32) + 1, -16384 + 1, -65536 + 1, Long.MIN_VALUE,
            Long.MIN_VALUE + 1, Long.MAX_VALUE};
        for (long serial : none) Due.is("spent(" + serial + ")", x.spent(serial), 0);
    }

    private static void spent() {
        Maker x = ready();
        Due.is("check", x.check(STAMP), 1);
        Due.is("spent(0)", x.spent(0), 1);
        Due.is("check again", x.check(STAMP), -7);
        Due.is("refund(0)", x.refund(0), 0);
        Due.is("spent(0) then", x.spent(0), 1);
    }

    private static void spentBeforeItsMaking() {
        Maker x = ready();
        Due.is("check of number 3", x.check(STAMP.withSerial(3)), 1);
        Due.is("spent(3)", x.spent(3), 1);
        x.make(STAMP);
        Due.is("spent(3) when it was made", x.spent(3), 1);
    }

    private static void givenBack() {
        Maker x = ready();
        Due.is("refund(2)", x.refund(2), 1);
        Due.is("spent(2)", x.spent(2), 2);
        Due.is("check of it", x.check(STAMP.withSerial(2)), -8);
        Due.is("refund(2) again", x.refund(2), 0);
        Due.is("spent(2) then", x.spent(2), 2);
    }

    private static void neighbours() {
        Maker x = ready();
        x.check(STAMP.withSerial(0));
        x.refund(2);
        Due.is("spent(0)", x.spent(0), 1);
        Due.is("spent(1)", x.spent(1), 0);
        Due.is("spent(2)", x.spent(2), 2);
        Due.is("spent(3)", x.spent(3), 0);
    }
}
