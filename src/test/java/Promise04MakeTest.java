public final class Promise04MakeTest {
    public static void main(String[] args) {
        all();
        Due.end();
    }

    static void all() {
        Sentence.under("Promise 4: make");
        Sentence.test("with the next serial number (0 first)", "0, 1, 2 and on, whatever the key", Promise04MakeTest::serials);
        Sentence.test("with the next serial number (0 first)", "a refused make takes none",
            Promise04MakeTest::serialBehindRefusals);
        Sentence.test("16, its letters", "they and the digest are the stamp's", Promise04MakeTest::letters);
        Sentence.test("UNKNOWN", "no key at all", () -> unknown(0, 0, 1));
        Sentence.test("UNKNOWN", "0 is the first inside, -1 outside", () -> {
            Due.is("make(0, ..)", new Maker().keys(3).make(0, 1, 0, 0), 16);
            unknown(3, -1);
        });
        Sentence.test("UNKNOWN", "the latest key is the last inside, the next number outside", () -> {
            Due.is("make(2, ..)", new Maker().keys(3).make(2, 1, 0, 0), 16);
            unknown(3, 3, 14, 15);
        });
        Sentence.test("UNKNOWN", "of fifteen keys 14 is the last inside, 15 outside", () -> {
            Due.is("make(14, ..)", new Maker().keys(15).make(14, 1, 0, 0), 16);
            unknown(15, 15, 16);
        });
        Sentence.test("UNKNOWN", "numbers that would be a key's when cut to fewer bits, and the extremes", () ->
            unknown(15, 16, 32, 256, 65536, -16, -65536, Integer.MIN_VALUE, Integer.MAX_VALUE));
        Sentence.test("OUTSIDE (value", "1 is the first inside, 0 outside", () -> {
            value(16, 1, 2);
            value(StampMaker.OUTSIDE, 0, -1, -2);
        });
        Sentence.test("OUTSIDE (value", "99999 is the last inside, 100000 outside", () -> {
            value(16, 99998, 99999);
            value(StampMaker.OUTSIDE, 100000, 100001, 131071);
        });
        Sentence.test("OUTSIDE (value", "values that would be inside when cut to 17 or 16 bits, and the extremes", () -> {
            value(StampMaker.OUTSIDE, 131072, 131073, -131071, Integer.MIN_VALUE, Integer.MIN_VALUE + 1, Integer.MAX_VALUE);
            value(16, 65535, 65536, 65537);
        });
        Sentence.test("value, kind, day", "kind 0 is the first inside, -1 outside", () -> {
            kind(16, 0, 1);
            kind(StampMaker.OUTSIDE, -1, -2);
        });
        Sentence.test("value, kind, day", "kind 9 is the last inside, 10 outside", () -> {
            kind(16, 8, 9);
            kind(StampMaker.OUTSIDE, 10, 11, 15);
        });
        Sentence.test("value, kind, day", "kinds that would be inside when cut to 4 bits, and the extremes", () ->
            kind(StampMaker.OUTSIDE, 16, 25, -16, -7, Integer.MIN_VALUE, Integer.MAX_VALUE));
        Sentence.test("kind, day)", "day 0 is the first inside, -1 outside", () -> {
            day(16, 0, 1);
            day(StampMaker.OUTSIDE, -1, -2);
        });
        Sentence.test("kind, day)", "day 65535 is the last inside, 65536 outside", () -> {
            day(16, 65534, 65535);
            day(StampMaker.OUTSIDE, 65536, 65537);
        });
        Sentence.test("kind, day)", "days that would be inside when cut to 16 or 32 bits, and the extremes", () ->
            day(StampMaker.OUTSIDE, 1L << 32, (1L << 32) + 5, -(1L << 32), -65536, 131072, Long.MIN_VALUE, Long.MAX_VALUE));
        Sentence.test("STATE (the key does not hold on that day)", "its first day is inside, the day before outside", () -> {
            state(16, 10, 11);
            state(StampMaker.STATE, 9, 0);
        });
        Sentence.test("STATE (the key does not hold on that day)", "its last day is inside, the day behind outside", () -> {
            state(16, 19, 20);
            state(StampMaker.STATE, 21, 65535);
        });
        Sentence.test("STATE (the key does not hold on that day)", "another key that does is none",
            Promise04MakeTest::anotherKeyHolds);
        Sentence.test("ROOM (16384 were made)", "as many as an object's calls allow are inside", Promise04MakeTest::room);
    }

    private static void unknown(int keys, int... numbers) {
        Maker x = new Maker().keys(keys);
        for (int k : numbers) Due.is("make(" + k + ", 1, 0, 0) with " + keys + " keys", x.make(k, 1, 0, 0), StampMaker.UNKNOWN);
    }

    private static void value(int want, int... values) {
        Maker x = new Maker().keys(1);
        for (int value : values) Due.is("make with value " + value, x.make(0, value, 0, 0), want);
        if (want == 16) Due.is("the last one's letters", x.letters(),
            Stamp.LEAST.withValue(values[values.length - 1]).withSerial(values.length - 1).letters());
    }

    private static void kind(int want, int... kinds) {
        Maker x = new Maker().keys(1);
        for (int kind : kinds) Due.is("make with kind " + kind, x.make(0, 1, kind, 0), want);
    }

    private static void day(int want, long... days) {
        Maker x = new Maker().keys(1);
        for (long day : days) Due.is("make on day " + day, x.make(0, 1, 0, day), want);
    }

    private static void state(int want, long... days) {
        Maker x = new Maker();
        x.key(10, 20);
        for (long day : days) Due.is("make on day " + day, x.make(0, 1, 0, day), want);
    }

    private static void serials() {
        Maker x = new Maker().keys(3);
        for (int n = 0; n < 24; n++) {
            Stamp stamp = Stamp.LEAST.withKey(n % 3).withSerial(n);
            x.make(stamp);
            Due.is("the letters of number " + n, x.letters(), stamp.letters());
        }
    }

    private static void serialBehindRefusals() {
        Maker x = new Maker();
        x.key(0, 5);
        x.make(1, 1, 0, 0);
        x.make(0, 0, 0, 0);
        x.make(0, 1, 0, 6);
        x.make(0, 1, 0, 0);
        Due.is("the first behind refusals", x.letters(), Stamp.LEAST.letters());
        x.make(0, 1, 10, 0);
        x.make(0, 1, 0, 0);
        Due.is("the second behind a refusal", x.letters(), Stamp.LEAST.withSerial(1).letters());
    }

    private static void letters() {
        byte[] bytes = {1, -1, -128, 0};
        Maker x = new Maker().keys(2);
        x.octets(1, bytes);
        Stamp some = new Stamp(bytes, 1, 0, 1, 0, 0);
        Stamp[] all = {some, some.withValue(99999).withKind(9).withDay(65535), some.withValue(65536).withKind(5).withDay(32768),
            some.withValue(77777).withKind(3).withDay(1), some.withValue(2).withKind(8).withDay(255)};
        for (int serial = 0; serial < all.length; serial++) {
            Stamp stamp = all[serial].withSerial(serial);
            Due.is("make", x.make(stamp), 16);
            Due.is("its letters", x.letters(), stamp.letters());
            Due.is("its digest", x.digestText(), stamp.digestText());
        }
    }

    private static void anotherKeyHolds() {
        Maker x = new Maker();
        x.key(10, 20);
        x.key(0, 65535);
        Due.is("make with the key that holds", x.make(1, 1, 0, 9), 16);
        Due.is("make with the one that does not", x.make(0, 1, 0, 9), StampMaker.STATE);
    }

    // The 16385th make lies behind the 512th call, where answers are free: no test may ask for ROOM there.
    private static void room() {
        Maker x = new Maker().keys(1);
        while (x.left() > 16) Due.is("make when " + (x.calls() - 1) + " were made", x.make(Stamp.LEAST), 16);
        Due.is("the letters of the last", x.letters(), Stamp.LEAST.withSerial(494).letters());
        Due.is("calls left", x.left(), 0);
    }
}
