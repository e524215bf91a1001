/** Promise 11: what became of a serial number. */
public final class SpentTest {
    public static void main(String[] args) {
        StampMaker x = new StampMaker();
        x.key(0, 9);
        String[] letters = new String[3];
        for (int i = 0; i < 3; i++) {
            x.make(0, 1, 0, 5);
            letters[i] = Stamps.latest(x);
        }
        for (long serial : new long[] {0, 1, 2, 3, 16383}) Due.is("spent(" + serial + ") at first", x.spent(serial), 0);
        Stamps.check(x, Stamps.altered(letters[0], 15), 5);
        Stamps.check(x, letters[0], 4);
        Due.is("spent(0) behind refused checks", x.spent(0), 0);
        Stamps.check(x, letters[0], 5);
        x.refund(2);
        Due.is("spent(0)", x.spent(0), 1);
        Due.is("spent(1)", x.spent(1), 0);
        Due.is("spent(2)", x.spent(2), 2);
        Stamps.check(x, letters[0], 5);
        Stamps.check(x, letters[2], 5);
        x.refund(0);
        Due.is("spent(0) once more", x.spent(0), 1);
        Due.is("spent(2) once more", x.spent(2), 2);
        long[] none = {-1, 16384, 16385, 1L << 14, 1L << 32, (1L << 32) + 2, -16384, Long.MIN_VALUE, Long.MAX_VALUE};
        for (long serial : none) Due.is("spent(" + serial + ")", x.spent(serial), 0);
        Due.is("check of one that nobody made", Stamps.check(x, Stamps.letters(Stamps.bytes(), 0, 0, 1, 5, 16383), 5), 1);
        Due.is("spent(16383)", x.spent(16383), 1);
        Due.end();
    }
}
