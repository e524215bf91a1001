/** Promise 12: the next serial number is one more behind each stamp that was made, and behind nothing else. */
public final class SerialTest {
    public static void main(String[] args) {
        StampMaker x = new StampMaker();
        Due.is("serial() at first", x.serial(), 0);
        x.key(0, 9);
        x.key(5, 9);
        for (int n = 0; n < 200; n++) {
            Due.is("make", x.make(n % 2, 1, 0, 5), 16);
            Due.is("serial()", x.serial(), n + 1);
        }
        x.make(2, 1, 0, 5);
        x.make(0, 0, 0, 5);
        x.make(0, 1, 0, 10);
        x.refund(0);
        Stamps.check(x, Stamps.latest(x), 5);
        Stamps.check(x, Stamps.letters(Stamps.bytes(), 0, 0, 1, 5, 300), 5);
        Due.is("serial() behind other calls", x.serial(), 200);
        Due.end();
    }
}
