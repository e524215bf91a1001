/** Promise 9: a stamp is given back once, when it was made and is not spent. */
public final class RefundTest {
    public static void main(String[] args) {
        StampMaker x = new StampMaker();
        x.key(0, 9);
        Due.is("refund(0) before the first stamp", x.refund(0), 0);
        for (int i = 0; i < 3; i++) x.make(0, 1, 0, 5);
        Due.is("check", Stamps.check(x, Stamps.latest(x), 5), 1);
        for (long serial : new long[] {-1, 3, 4, 16383, 16384, 1L << 32, (1L << 32) + 1, Long.MIN_VALUE, Long.MAX_VALUE})
            Due.is("refund(" + serial + ")", x.refund(serial), 0);
        Due.is("refund(2), which is spent", x.refund(2), 0);
        Due.is("spent(2)", x.spent(2), 1);
        Due.is("refund(1)", x.refund(1), 1);
        Due.is("refund(1) again", x.refund(1), 0);
        Due.is("spent(1)", x.spent(1), 2);
        Due.is("refund(0)", x.refund(0), 1);
        Due.is("serial() behind it", x.serial(), 3);
        x.make(0, 1, 0, 5);
        Due.is("spent(3) when it is made", x.spent(3), 0);
        Due.is("refund(3)", x.refund(3), 1);
        Due.is("check of one given back", Stamps.check(x, Stamps.latest(x), 5), -8);
        forged();
        Due.end();
    }

    private static void forged() {
        StampMaker x = new StampMaker();
        x.key(0, 9);
        Due.is("check of one that nobody made", Stamps.check(x, Stamps.letters(Stamps.bytes(), 0, 0, 1, 5, 0), 5), 1);
        Due.is("refund of it", x.refund(0), 0);
        x.make(0, 1, 0, 5);
        Due.is("refund of it when it is made", x.refund(0), 0);
        Due.is("spent(0)", x.spent(0), 1);
    }
}
