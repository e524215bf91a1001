public final class TermsCheckedTest {
    /** A stamp of the key that ready opens: it holds from day 100 to day 300. */
    private static final Stamp STAMP = new Stamp(new byte[] {10, 20, 30}, 0, 3, 77, 150, 0);

    public static void main(String[] args) {
        all();
        Due.end();
    }

    static void all() {
        Sentence.under("Terms");
        Sentence.test("A stamp that is CHECKED on a day: its letters are those that were typed", "in their order",
            TermsCheckedTest::typedInOrder);
        numbersOfLetters();
        lettersAndOthers();
        fields();
        digests();
        days();
        fates();
    }

    /** A key of three bytes that holds from day 100 to day 300; serial numbers 0 and 1 were made. */
    private static Maker ready() {
        Maker x = new Maker();
        x.key(100, 300);
        x.octets(0, STAMP.keyBytes());
        x.make(STAMP);
        x.make(STAMP);
        return x;
    }

    private static void answers(String what, Maker x, String letters, long day, int want) {
        Due.is("check of " + what + " on day " + day, x.check(letters, day), want);
    }

    private static void typedInOrder() {
        String good = STAMP.letters();
        answers("the letters backwards", ready(), new StringBuilder(good).reverse().toString(), 150, -4);
        String swapped = good.substring(0, 14) + good.charAt(15) + good.charAt(14);
        answers("the last two the other way round", ready(), swapped, 150, -5);
        answers("the letters", ready(), good, 150, 1);
    }

    private static void numbersOfLetters() {
        String good = STAMP.letters();
        String words = "1 there are not sixteen";
        Sentence.test(words, "none", () -> answers("none", ready(), "", 150, -2));
        Sentence.test(words, "15 are too few", () -> {
            answers("the first fifteen", ready(), good.substring(0, 15), 150, -2);
            answers("the last fifteen", ready(), good.substring(1), 150, -2);
        });
        Sentence.test(words, "16 are as many as there must be", () -> answers("sixteen", ready(), good, 150, 1));
        Sentence.test(words, "17 are too many", () -> {
            answers("one behind them", ready(), good + "0", 150, -2);
            answers("one before them", ready(), "0" + good, 150, -2);
        });
        Sentence.test(words, "32, 40, and more than are typed", () -> {
            for (int count : new int[] {32, 39, 40, 41, 48, 56, 80, 272}) answers(count + "", ready(),
                good.repeat(17).substring(0, count), 150, -2);
        });
    }

    private static void lettersAndOthers() {
        String words = "2 one is none of the letters";
        Sentence.test(words, "each character from 0 to 300 as the first of sixteen", () -> eachCharacterAt(0));
        Sentence.test(words, "each character from 0 to 300 as the last of the fields' letters", () -> eachCharacterAt(10));
        Sentence.test(words, "each character from 0 to 300 as the first of the digest's letters", () -> eachCharacterAt(11));
        Sentence.test(words, "each character from 0 to 300 as the last of sixteen", () -> eachCharacterAt(15));
        Sentence.test(words, "numbers that would be letters when cut to 7, 8 or 16 bits, and the extremes",
            TermsCheckedTest::farCharacters);
        Sentence.test(words, "all sixteen are none", () -> answers("sixteen I", ready(), "I".repeat(16), 150, -3));
    }

    /** Behind reason 2: another first letter says another key or a kind 11, reason 3; other letters leave reason 4. */
    private static void eachCharacterAt(int place) {
        String good = STAMP.letters();
        for (int c = 0; c <= 300; c++) {
            Maker x = ready();
            x.type(good.substring(0, place));
            x.type(c);
            x.type(good.substring(place + 1));
            int v = Stamp.ALPHABET.indexOf(c);
            int want = v < 0 ? -3 : c == good.charAt(place) ? 1 : place == 0 ? -4 : -5;
            Due.is("check with " + c + " at " + place, x.check(150), want);
        }
    }

    private static void farCharacters() {
        String good = STAMP.letters();
        int c = good.charAt(15);
        int[] far = {c + 128, c + 256, c + 65536, c - 65536, c - 256, c - 128, c | Integer.MIN_VALUE, -c, -1, -48,
            Integer.MIN_VALUE, Integer.MAX_VALUE};
        for (int one : far) {
            Maker x = ready();
            x.type(good.substring(0, 15));
            x.type(one);
            Due.is("check with " + one, x.check(150), -3);
        }
    }

    private static void fields() {
        String words = "3 there is no such key";
        Sentence.test(words, "no key at all", () -> answers("a stamp", new Maker(), Stamp.LEAST.letters(), 0, -4));
        Sentence.test(words, "the latest key is inside, the next number outside", () -> {
            answers("key 2 of three", new Maker().keys(3), Stamp.LEAST.withKey(2).letters(), 0, 1);
            answers("key 3 of three", new Maker().keys(3), Stamp.LEAST.withKey(3).letters(), 0, -4);
        });
        Sentence.test(words, "of fifteen keys 14 is inside, 15 outside", () -> {
            answers("key 14", new Maker().keys(15), Stamp.LEAST.withKey(14).letters(), 0, 1);
            answers("key 15", new Maker().keys(15), Stamp.LEAST.withKey(15).letters(), 0, -4);
        });
        words = "or a field is not as said";
        Sentence.test(words, "kind 9 is inside, 10 outside", () -> {
            field(STAMP.withKind(9), 1);
            for (int kind = 10; kind <= 15; kind++) field(STAMP.withKind(kind), -4);
        });
        Sentence.test(words, "kind 0 is inside", () -> field(STAMP.withKind(0), 1));
        Sentence.test(words, "value 1 is inside, 0 outside", () -> {
            field(STAMP.withValue(1), 1);
            field(STAMP.withValue(0), -4);
        });
        Sentence.test(words, "value 99999 is inside, 100000 outside", () -> {
            field(STAMP.withValue(99999), 1);
            for (int value : new int[] {100000, 100001, 131070, 131071}) field(STAMP.withValue(value), -4);
        });
        Sentence.test(words, "all bits of the day and of the serial number are inside", () -> {
            answers("the greatest", new Maker().keys(1), Stamp.LEAST.withDay(65535).withSerial(16383).letters(), 65535, 1);
            answers("the least", new Maker().keys(1), Stamp.LEAST.letters(), 0, 1);
        });
        Sentence.test(words, "a serial number that nobody made is as said", () -> field(STAMP.withSerial(2), 1));
        Sentence.test(words, "sixteen times the first letter, whose 55 bits are all 0", () ->
            answers("0", new Maker().keys(1), "0".repeat(16), 0, -4));
        Sentence.test(words, "sixteen times the last letter, whose 55 bits are all 1", () ->
            answers("X", new Maker().keys(15), "X".repeat(16), 0, -4));
    }

    private static void field(Stamp stamp, int want) {
        answers(stamp.bits(), ready(), stamp.letters(), 150, want);
    }

    private static void digests() {
        String words = "4 the digest's bits are others";
        Sentence.test(words, "each of the 25", () -> {
            for (int bit = 55; bit < 80; bit++) answers("bit " + bit, ready(), STAMP.lettersWithout(bit), 150, -5);
        });
        Sentence.test(words, "all of them are 0, or 1", () -> {
            answers("0", ready(), STAMP.letters().substring(0, Stamp.SEAL) + "00000", 150, -5);
            answers("X", ready(), STAMP.letters().substring(0, Stamp.SEAL) + "XXXXX", 150, -5);
        });
        Sentence.test(words, "those of another stamp, or under other bytes of the key", () -> {
            String seal = STAMP.withSerial(1).letters().substring(Stamp.SEAL);
            answers("another's", ready(), STAMP.letters().substring(0, Stamp.SEAL) + seal, 150, -5);
            answers("other bytes'", ready(), STAMP.withBytes((byte) 10, (byte) 20, (byte) 31).letters(), 150, -5);
            answers("no bytes'", ready(), STAMP.withBytes().letters(), 150, -5);
        });
    }

    private static void days() {
        String words = "5 the day is before the stamp's";
        Sentence.test(words, "the stamp's day is inside, the day before it outside", () -> {
            day(150, 150, 1);
            day(150, 149, -6);
            day(150, 0, -6);
        });
        words = "or more than 100 behind it";
        Sentence.test(words, "100 behind is inside, 101 outside", () -> {
            day(150, 249, 1);
            day(150, 250, 1);
            day(150, 251, -6);
            day(150, 65535, -6);
        });
        Sentence.test(words, "at the ends of all days", () -> {
            Maker x = new Maker().keys(1);
            answers("day 65435", x, Stamp.LEAST.withDay(65435).withSerial(1).letters(), 65535, 1);
            answers("day 65434", x, Stamp.LEAST.withDay(65434).withSerial(2).letters(), 65535, -6);
            answers("day 0", x, Stamp.LEAST.withSerial(3).letters(), 100, 1);
            answers("day 0", x, Stamp.LEAST.withSerial(4).letters(), 101, -6);
            answers("day 65535", x, Stamp.LEAST.withDay(65535).withSerial(5).letters(), 0, -6);
        });
        words = "or not one of its key";
        Sentence.test(words, "the key's first day is inside, the day before it outside", () -> {
            day(50, 100, 1);
            day(50, 99, -6);
        });
        Sentence.test(words, "the key's last day is inside, the day behind it outside", () -> {
            day(250, 300, 1);
            day(250, 301, -6);
        });
        Sentence.test(words, "it is the day of the check that counts, not the stamp's", () -> {
            day(99, 110, 1);
            day(301, 301, -6);
        });
    }

    private static void day(int stampDay, int day, int want) {
        answers("a stamp of day " + stampDay, ready(), STAMP.withDay(stampDay).withSerial(1).letters(), day, want);
    }

    private static void fates() {
        Sentence.test("6 it was spent", "the second and the third time", () -> {
            Maker x = ready();
            for (int want : new int[] {1, -7, -7}) answers("the stamp", x, STAMP.letters(), 150, want);
        });
        Sentence.test("6 it was spent", "on another day", () -> {
            Maker x = ready();
            answers("the stamp", x, STAMP.letters(), 250, 1);
            answers("the stamp", x, STAMP.letters(), 150, -7);
        });
        Sentence.test("7 it was given back", "the first and the second time", () -> {
            Maker x = ready();
            x.refund(0);
            for (int n = 0; n < 2; n++) answers("the stamp", x, STAMP.letters(), 150, -8);
            Due.is("spent(0)", x.spent(0), 2);
        });
        Sentence.test("Otherwise it is SPENT now", "and cannot be given back", () -> {
            Maker x = ready();
            answers("the stamp", x, STAMP.letters(), 150, 1);
            Due.is("spent(0)", x.spent(0), 1);
            Due.is("refund(0)", x.refund(0), 0);
            Due.is("spent(1)", x.spent(1), 0);
        });
        String words = "(What is spent is told by serial numbers.)";
        Sentence.test(words, "another stamp with a spent one's serial number", () -> {
            Maker x = ready();
            answers("the stamp", x, STAMP.letters(), 150, 1);
            answers("another", x, STAMP.withKind(9).withValue(5).withDay(160).letters(), 160, -7);
        });
        Sentence.test(words, "another stamp with a given back one's serial number", () -> {
            Maker x = ready();
            x.refund(0);
            answers("another", x, STAMP.withKind(9).withValue(5).withDay(160).letters(), 160, -8);
        });
        Sentence.test(words, "one that nobody made is spent, and then so is the one that is made", () -> {
            Maker x = ready();
            answers("number 2", x, STAMP.withSerial(2).letters(), 150, 1);
            x.make(STAMP.withValue(9));
            answers("number 2 when it was made", x, STAMP.withSerial(2).withValue(9).letters(), 150, -7);
        });
        Sentence.test(words, "the same fields with another serial number", () -> {
            Maker x = ready();
            answers("number 0", x, STAMP.letters(), 150, 1);
            answers("number 1", x, STAMP.withSerial(1).letters(), 150, 1);
        });
    }
}
