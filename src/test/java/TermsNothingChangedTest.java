/** Each refused call, each throw, and each call of which nothing comes, beside an object that had no such call. */
public final class TermsNothingChangedTest {
    public static void main(String[] args) {
        all();
        Due.end();
    }

    static void all() {
        Sentence.under("Terms");
        keys();
        makes();
        checksAndFirst();
        digests();
        Sentence.under("Promise 3: octet");
        octets();
        Sentence.under("Promise 6: type");
        nothingComes("not when 40 are", "a 41st: nothing has changed", Twins::full, x -> x.type('1'));
        Sentence.under("Promise 9: refund");
        refunds();
        Sentence.under("Not promised");
        looks();
    }

    private static void refused(String edge, Twins.Step call) {
        Sentence.test("A call that is refused, or throws, changes nothing", edge, () -> Twins.unchangedEverywhere(call));
    }

    private static void refused(String edge, Twins.Step before, Twins.Step call) {
        Sentence.test("A call that is refused, or throws, changes nothing", edge, () -> Twins.unchanged(before, call));
    }

    private static void keys() {
        refused("key, OUTSIDE: from -1 on", x -> Due.is("key", x.key(-1, 5), StampMaker.OUTSIDE));
        refused("key, OUTSIDE: until 65536", x -> Due.is("key", x.key(5, 65536), StampMaker.OUTSIDE));
        refused("key, OUTSIDE: until the day before its first", x -> Due.is("key", x.key(5, 4), StampMaker.OUTSIDE));
        refused("key, ROOM", Twins::full, x -> Due.is("key", x.key(0, 5), StampMaker.ROOM));
    }

    private static void makes() {
        refused("make, UNKNOWN: key -1", x -> Due.is("make", x.make(-1, 1, 0, 150), StampMaker.UNKNOWN));
        refused("make, UNKNOWN: key 15", x -> Due.is("make", x.make(15, 1, 0, 150), StampMaker.UNKNOWN));
        refused("make, UNKNOWN: no key at all", Twins::fresh, x -> Due.is("make", x.make(0, 1, 0, 150), StampMaker.UNKNOWN));
        refused("make, UNKNOWN: the next key's number", Twins::used,
            x -> Due.is("make", x.make(3, 1, 0, 150), StampMaker.UNKNOWN));
        makeOfKeys("make, OUTSIDE: value 0", 0, 0, 150, StampMaker.OUTSIDE);
        makeOfKeys("make, OUTSIDE: value 100000", 100000, 0, 150, StampMaker.OUTSIDE);
        makeOfKeys("make, OUTSIDE: kind -1", 1, -1, 150, StampMaker.OUTSIDE);
        makeOfKeys("make, OUTSIDE: kind 10", 1, 10, 150, StampMaker.OUTSIDE);
        makeOfKeys("make, OUTSIDE: day -1", 1, 0, -1, StampMaker.OUTSIDE);
        makeOfKeys("make, OUTSIDE: day 65536", 1, 0, 65536, StampMaker.OUTSIDE);
        makeOfKeys("make, STATE: the day before the key's first", 1, 0, 99, StampMaker.STATE);
        makeOfKeys("make, STATE: the day behind the key's last", 1, 0, 301, StampMaker.STATE);
    }

    /** By key 0, which has made none and takes bytes yet: on the used object and on the full one. */
    private static void makeOfKeys(String edge, int value, int kind, long day, int want) {
        Twins.Step call = x -> Due.is("make", x.make(0, value, kind, day), want);
        refused(edge + ", behind some calls", Twins::used, call);
        refused(edge + ", with fifteen keys", Twins::full, call);
    }

    private static void checksAndFirst() {
        refused("check, OUTSIDE: day -1", x -> Due.is("check", x.check(-1), StampMaker.OUTSIDE));
        refused("check, OUTSIDE: day 65536", x -> Due.is("check", x.check(65536), StampMaker.OUTSIDE));
        refused("check, OUTSIDE: the least and the greatest day", x -> {
            Due.is("check", x.check(Long.MIN_VALUE), StampMaker.OUTSIDE);
            Due.is("check", x.check(Long.MAX_VALUE), StampMaker.OUTSIDE);
        });
        refused("first, OUTSIDE: -1", x -> Due.is("first", x.first(-1), StampMaker.OUTSIDE));
        refused("first, OUTSIDE: 3", x -> Due.is("first", x.first(3), StampMaker.OUTSIDE));
    }

    private static void digests() {
        refused("digest throws: -1", x -> x.hasNoDigest(-1));
        refused("digest throws: 32", x -> x.hasNoDigest(32));
        refused("digest throws: 0, when none was reckoned", Twins::fresh, x -> x.hasNoDigest(0));
    }

    private static void octets() {
        nothingComes("there is no such key", "-1 and 15: nothing has changed", Twins::full, x -> {
            x.octet(-1, (byte) 1);
            x.octet(15, (byte) 1);
        });
        nothingComes("there is no such key", "no key at all: nothing has changed", Twins::fresh, x -> x.octet(0, (byte) 1));
        nothingComes("there is no such key", "the next key's number: nothing has changed", Twins::used,
            x -> x.octet(3, (byte) 1));
        nothingComes("or it has 32", "a 33rd: nothing has changed", Twins::full, x -> x.octet(14, (byte) 1));
        nothingComes("or made a stamp", "behind its stamps: nothing has changed", TermsNothingChangedTest::stampOfKeyZero,
            x -> x.octet(0, (byte) 1));
    }

    private static void stampOfKeyZero(Maker x) {
        x.key(100, 300);
        x.make(0, 1, 0, 150);
    }

    private static void refunds() {
        nothingComes("0 when it was made by nobody", "-1 and 16384: nothing has changed", Twins::used, x -> {
            Due.is("refund(-1)", x.refund(-1), 0);
            Due.is("refund(16384)", x.refund(16384), 0);
        });
        nothingComes("0 when it was made by nobody", "no stamps: nothing has changed", Twins::fresh,
            x -> Due.is("refund(0)", x.refund(0), 0));
        nothingComes("0 when it was made by nobody", "the next serial number: nothing has changed", Twins::used,
            x -> Due.is("refund(4)", x.refund(4), 0));
        nothingComes("is spent", "nothing has changed", Twins::used, x -> Due.is("refund(0)", x.refund(0), 0));
        nothingComes("or was given back", "nothing has changed", Twins::used, x -> Due.is("refund(1)", x.refund(1), 0));
    }

    private static void nothingComes(String words, String edge, Twins.Step before, Twins.Step call) {
        Sentence.test(words, edge, () -> Twins.unchanged(before, call));
    }

    private static void looks() {
        Sentence.test("Nothing is promised beyond the answers and state changes described above",
            "calls that only look change nothing", () -> Twins.unchangedEverywhere(x -> {
                for (int i : new int[] {-1, 0, 15, 16}) x.letter(i);
                for (int what = 0; what <= 2; what++) x.first(what);
                for (long serial : new long[] {-1, 0, 1, 2, 16383, 16384}) x.spent(serial);
                x.serial();
            }));
    }
}
