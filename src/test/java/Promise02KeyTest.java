public final class Promise02KeyTest {
    public static void main(String[] args) {
        all();
        Due.end();
    }

    static void all() {
        Sentence.under("Promise 2: key");
        Sentence.test("A key more, without bytes", "also behind a key that has bytes", Promise02KeyTest::withoutBytes);
        Sentence.test("that holds from a day", "the first day is inside, the day before it outside", Promise02KeyTest::fromDay);
        Sentence.test("to another one", "the last day is inside, the day behind it outside", Promise02KeyTest::untilDay);
        Sentence.test("from a day to another one", "the two days are the same one", Promise02KeyTest::oneDay);
        Sentence.test("its number", "one more than the key's before it", Promise02KeyTest::number);
        Sentence.test("its number", "a refused key takes none", Promise02KeyTest::numberBehindRefusals);
        Sentence.test("not 0 <= from", "0 is inside, -1 outside", () -> {
            inside(0, 5);
            inside(0, 0);
            outside(-1, 5);
            outside(-1, 0);
            outside(-1, -1);
            outside(Long.MIN_VALUE, 5);
        });
        Sentence.test("from <= until", "the same day is inside, a day less outside", () -> {
            inside(7, 7);
            inside(7, 8);
            outside(7, 6);
            outside(1, 0);
            outside(65535, 65534);
            outside(5, -1);
            outside(5, Long.MIN_VALUE);
        });
        Sentence.test("until <= 65535", "65535 is inside, 65536 outside", () -> {
            inside(0, 65535);
            inside(65535, 65535);
            outside(0, 65536);
            outside(65535, 65536);
            outside(65536, 65536);
            outside(5, Long.MAX_VALUE);
        });
        Sentence.test("not 0 <= from <= until <= 65535", "days that would be inside when cut to 32 or 16 bits", () -> {
            outside(1L << 32, (1L << 32) + 5);
            outside(0, (1L << 32) + 5);
            outside(-(1L << 32), 5);
            outside(-(1L << 32) + 3, -(1L << 32) + 5);
            outside(65536 + 3, 65536 + 5);
            outside(-65536 + 3, 5);
            outside(Long.MIN_VALUE, Long.MIN_VALUE + 5);
        });
        Sentence.test("ROOM", "the fifteenth key is the last inside, the sixteenth outside", Promise02KeyTest::room);
    }

    private static void inside(long from, long until) {
        Due.is("key(" + from + ", " + until + ")", new Maker().key(from, until), 0);
    }

    private static void outside(long from, long until) {
        Due.is("key(" + from + ", " + until + ")", new Maker().key(from, until), StampMaker.OUTSIDE);
    }

    private static void withoutBytes() {
        Maker x = new Maker();
        x.key(0, 9);
        x.octets(0, (byte) 1, (byte) 2);
        x.key(0, 9);
        x.make(1, 1, 0, 0);
        Due.is("the second key's stamp", x.letters(), Stamp.LEAST.withKey(1).letters());
    }

    private static void fromDay() {
        Maker x = new Maker();
        x.key(10, 20);
        Due.is("make on day 10", x.make(0, 1, 0, 10), 16);
        Due.is("make on day 9", x.make(0, 1, 0, 9), StampMaker.STATE);
        x.key(1, 65535);
        Due.is("make on day 1", x.make(1, 1, 0, 1), 16);
        Due.is("make on day 0", x.make(1, 1, 0, 0), StampMaker.STATE);
    }

    private static void untilDay() {
        Maker x = new Maker();
        x.key(10, 20);
        Due.is("make on day 20", x.make(0, 1, 0, 20), 16);
        Due.is("make on day 21", x.make(0, 1, 0, 21), StampMaker.STATE);
        x.key(0, 65534);
        Due.is("make on day 65534", x.make(1, 1, 0, 65534), 16);
        Due.is("make on day 65535", x.make(1, 1, 0, 65535), StampMaker.STATE);
    }

    private static void oneDay() {
        for (int day : new int[] {0, 7, 65535}) {
            Maker x = new Maker();
            x.key(day, day);
            if (day > 0) Due.is("make a day before", x.make(0, 1, 0, day - 1), StampMaker.STATE);
            Due.is("make on day " + day, x.make(0, 1, 0, day), 16);
            if (day < 65535) Due.is("make a day behind", x.make(0, 1, 0, day + 1), StampMaker.STATE);
        }
    }

    private static void number() {
        Maker x = new Maker();
        for (int k = 0; k < 15; k++) Due.is("key number " + k, x.key(k, k), k);
        for (int k = 0; k < 15; k++) Due.is("make with key " + k + " on its day", x.make(k, 1, 0, k), 16);
        for (int k = 0; k < 15; k++) Due.is("make with key " + k + " behind its day", x.make(k, 1, 0, k + 1), StampMaker.STATE);
    }

    private static void numberBehindRefusals() {
        Maker x = new Maker();
        x.key(5, 4);
        Due.is("the first key behind a refused one", x.key(0, 9), 0);
        x.key(0, 65536);
        Due.is("the second key behind a refused one", x.key(0, 9), 1);
    }

    private static void room() {
        Maker x = new Maker().keys(14);
        Due.is("the fifteenth key", x.key(0, 9), 14);
        Due.is("the sixteenth key", x.key(0, 9), StampMaker.ROOM);
        Due.is("the seventeenth key", x.key(0, 9), StampMaker.ROOM);
        Due.is("make with key 14", x.make(14, 1, 0, 9), 16);
        Due.is("make with key 15", x.make(15, 1, 0, 9), StampMaker.UNKNOWN);
    }
}
