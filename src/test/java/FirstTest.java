/** Promise 8: first tells of the stamp that was accepted or found spent latest. */
public final class FirstTest {
    public static void main(String[] args) {
        StampMaker x = new StampMaker();
        for (int what : new int[] {-1, 3, 4, Integer.MIN_VALUE, Integer.MAX_VALUE})
            Due.is("first(" + what + ") before all", x.first(what), StampMaker.OUTSIDE);
        tells(x, "a new object", -1, -1, -1);
        x.key(0, 65535);
        String[] letters = new String[4];
        for (int i = 0; i < 4; i++) {
            x.make(0, 10 + i, i, 50);
            letters[i] = Stamps.latest(x);
        }
        x.check(50);
        x.check(-1);
        Stamps.check(x, "I".repeat(16), 50);
        Stamps.check(x, "F".repeat(16), 50);
        Stamps.check(x, Stamps.altered(letters[0], 15), 50);
        Stamps.check(x, letters[0], 49);
        tells(x, "refused checks", -1, -1, -1);

        Due.is("check", Stamps.check(x, letters[2], 60), 1);
        tells(x, "the first accepted", 2, 60, 6);
        Due.is("check", Stamps.check(x, letters[0], 70), 1);
        tells(x, "the second accepted", 0, 70, 7);
        Due.is("check", Stamps.check(x, letters[2], 80), -7);
        tells(x, "one found spent", 2, 60, 6);
        Due.is("check", Stamps.check(x, letters[0], 300), -6);
        tells(x, "one spent, on a wrong day", 2, 60, 6);
        x.refund(1);
        Due.is("check", Stamps.check(x, letters[1], 60), -8);
        tells(x, "one given back", 2, 60, 6);
        x.refund(0);
        Due.is("check", Stamps.check(x, letters[0], 90), -7);
        tells(x, "another one found spent", 0, 70, 7);
        x.check(65536);
        Due.is("check", Stamps.check(x, letters[3], 95), 1);
        tells(x, "the third accepted", 3, 95, 12);
        for (int what : new int[] {-1, 3}) Due.is("first(" + what + ")", x.first(what), StampMaker.OUTSIDE);
        bounds();
        Due.end();
    }

    private static void tells(StampMaker x, String when, int serial, int day, int check) {
        Due.is("first(0), " + when, x.first(0), serial);
        Due.is("first(1), " + when, x.first(1), day);
        Due.is("first(2), " + when, x.first(2), check);
    }

    private static void bounds() {
        StampMaker x = new StampMaker();
        x.key(0, 65535);
        Due.is("check", Stamps.check(x, Stamps.letters(Stamps.bytes(), 0, 0, 1, 0, 16383), 0), 1);
        tells(x, "the last serial number on the first day", 16383, 0, 1);
        Due.is("check", Stamps.check(x, Stamps.letters(Stamps.bytes(), 0, 0, 1, 65535, 0), 65535), 1);
        tells(x, "the first serial number on the last day", 0, 65535, 2);
    }
}
