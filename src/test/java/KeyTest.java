/** Promise 2: keys are numbered from 0, hold on both days that bound them, and are fifteen at most. */
public final class KeyTest {
    public static void main(String[] args) {
        outside();
        fifteen();
        holds();
        Due.end();
    }

    private static void outside() {
        StampMaker x = new StampMaker();
        long[][] wrong = {{-1, 5}, {5, 4}, {0, 65536}, {65536, 65536}, {-2, -1}, {Long.MIN_VALUE, 5}, {5, Long.MAX_VALUE},
            {1, 0}, {1L << 32, (1L << 32) + 5}, {0, 1L << 32}, {65535, 65534}};
        for (long[] days : wrong) Due.is("key(" + days[0] + ", " + days[1] + ")", x.key(days[0], days[1]), StampMaker.OUTSIDE);
        Due.is("key(0, 0)", x.key(0, 0), 0);
        Due.is("key(65535, 65535)", x.key(65535, 65535), 1);
        Due.is("key(0, 65535)", x.key(0, 65535), 2);
    }

    private static void fifteen() {
        StampMaker x = new StampMaker();
        for (int k = 0; k < 15; k++) Due.is("key number " + k, x.key(k, k), k);
        Due.is("key number 15", x.key(0, 0), StampMaker.ROOM);
        Due.is("key(1, 0) when there is no room", x.key(1, 0), StampMaker.OUTSIDE);
        Due.is("make(15, ..)", x.make(15, 1, 0, 0), StampMaker.UNKNOWN);
        for (int k = 0; k < 15; k++) Due.is("make with key " + k, x.make(k, 1, 0, k), 16);
    }

    private static void holds() {
        StampMaker x = new StampMaker();
        x.key(10, 20);
        Due.is("make a day early", x.make(0, 1, 0, 9), StampMaker.STATE);
        Due.is("make on the first day", x.make(0, 1, 0, 10), 16);
        Due.is("without bytes", Stamps.latest(x), Stamps.letters(Stamps.bytes(), 0, 0, 1, 10, 0));
        Due.is("make on the last day", x.make(0, 1, 0, 20), 16);
        Due.is("make a day late", x.make(0, 1, 0, 21), StampMaker.STATE);
    }
}
