/** The order of the refusals, where two hold at once (make's ROOM holds for no object within its 512 calls). */
public final class TermsRefusalsTest {
    public static void main(String[] args) {
        all();
        Due.end();
    }

    static void all() {
        Sentence.under("Terms");
        make("UNKNOWN before OUTSIDE: no such key, a value outside", 1, 0, 0, 15, StampMaker.UNKNOWN);
        make("UNKNOWN before OUTSIDE: no such key, a value too great", 1, 100000, 0, 15, StampMaker.UNKNOWN);
        make("UNKNOWN before OUTSIDE: no such key, a kind outside", 1, 1, 10, 15, StampMaker.UNKNOWN);
        make("UNKNOWN before OUTSIDE: no such key, a kind too small", 1, 1, -1, 15, StampMaker.UNKNOWN);
        make("UNKNOWN before OUTSIDE: no such key, a day outside", 1, 1, 0, 65536, StampMaker.UNKNOWN);
        make("UNKNOWN before OUTSIDE: no such key, a day too small", 1, 1, 0, -1, StampMaker.UNKNOWN);
        make("UNKNOWN before OUTSIDE: a key below all, all outside", -1, 0, -1, -1, StampMaker.UNKNOWN);
        make("OUTSIDE before STATE: a value outside, a day before the key's", 0, 0, 0, 9, StampMaker.OUTSIDE);
        make("OUTSIDE before STATE: a value too great, a day behind the key's", 0, 100000, 0, 21, StampMaker.OUTSIDE);
        make("OUTSIDE before STATE: a kind outside, a day before the key's", 0, 1, -1, 9, StampMaker.OUTSIDE);
        make("OUTSIDE before STATE: a kind too great, a day behind the key's", 0, 1, 10, 21, StampMaker.OUTSIDE);
        make("OUTSIDE before STATE: a day outside is none of the key's", 0, 1, 0, 65536, StampMaker.OUTSIDE);
        make("OUTSIDE before STATE: a day too small is none of the key's", 0, 1, 0, -1, StampMaker.OUTSIDE);
        sixteenthKey("OUTSIDE before ROOM: a key from -1 on", -1, 5);
        sixteenthKey("OUTSIDE before ROOM: a key until 65536", 5, 65536);
        sixteenthKey("OUTSIDE before ROOM: a key that ends before its first day", 5, 4);
        Sentence.test("UNKNOWN (there is no such key), OUTSIDE (a number is not as said), STATE, ROOM",
            "each of them is a constant", () -> {
            Due.is("UNKNOWN", StampMaker.UNKNOWN, -21);
            Due.is("OUTSIDE", StampMaker.OUTSIDE, -22);
            Due.is("STATE", StampMaker.STATE, -23);
            Due.is("ROOM", StampMaker.ROOM, -24);
        });
    }

    /** By a key that holds from day 10 to day 20. */
    private static void make(String which, int key, int value, int kind, long day, int want) {
        Sentence.test("of several the first one here", which, () -> {
            Maker x = new Maker();
            x.key(10, 20);
            Due.is("make", x.make(key, value, kind, day), want);
        });
    }

    private static void sixteenthKey(String which, long from, long until) {
        Sentence.test("of several the first one here", which, () ->
            Due.is("key", new Maker().keys(15).key(from, until), StampMaker.OUTSIDE));
    }
}
