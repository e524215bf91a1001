/** Promise 6: what is typed is kept in its order, forty characters at most. */
public final class TypeTest {
    public static void main(String[] args) {
        StampMaker x = new StampMaker();
        x.key(0, 9);
        x.make(0, 1, 0, 5);
        String letters = Stamps.latest(x);
        for (int count = 0; count <= 60; count++) {
            if (count == 16) continue;
            Due.is(count + " characters", Stamps.check(x, letters.repeat(4).substring(0, count), 5), -2);
        }
        Due.is("the last two the other way round", Stamps.check(x, swapped(letters), 5), -5);
        Due.is("sixteen of them behind all those", Stamps.check(x, letters, 5), 1);
        notWhenForty();
        betweenOtherCalls();
        Due.end();
    }

    private static String swapped(String letters) {
        Due.is("the last two letters differ", letters.charAt(14) != letters.charAt(15) ? 1 : 0, 1);
        return letters.substring(0, 14) + letters.charAt(15) + letters.charAt(14);
    }

    private static void notWhenForty() {
        StampMaker x = new StampMaker();
        x.key(0, 9);
        x.make(0, 1, 0, 5);
        String letters = Stamps.latest(x);
        for (int i = 0; i < 300; i++) x.type('0');
        Due.is("three hundred characters", x.check(5), -2);
        Due.is("nothing is typed behind them", Stamps.check(x, letters, 5), 1);
    }

    private static void betweenOtherCalls() {
        StampMaker x = new StampMaker();
        x.key(0, 9);
        x.make(0, 1, 0, 5);
        String letters = Stamps.latest(x);
        Stamps.type(x, letters.substring(0, 8));
        x.make(0, 2, 0, 5);
        x.refund(1);
        x.key(0, 3);
        x.spent(0);
        x.first(0);
        x.check(-1);
        Stamps.type(x, letters.substring(8));
        Due.is("typed in two parts", x.check(5), 1);
    }
}
