/** Of each two reasons that can hold at once the first counts; 6 and 7 cannot: what is spent is never given back. */
public final class TermsReasonOrderTest {
    private static final Stamp GOOD = new Stamp(new byte[] {7}, 0, 3, 77, 150, 2);
    private static final Stamp SPENT = GOOD.withSerial(0);
    private static final Stamp GIVEN_BACK = GOOD.withSerial(1);

    public static void main(String[] args) {
        all();
        Due.end();
    }

    static void all() {
        Sentence.under("Terms");
        beforeOthers(1, "seventeen letters", -2, stamp -> stamp.letters() + "0");
        beforeOthers(2, "a last one that is none", -3, Stamp::lettersMisspelt);
        beforeOthers(3, "a kind 10", -4, stamp -> stamp.withKind(10).letters());
        beforeOthers(3, "a value 0", -4, stamp -> stamp.withValue(0).letters());
        beforeOthers(3, "a value 100000", -4, stamp -> stamp.withValue(100000).letters());
        beforeOthers(3, "a key that is not there", -4, stamp -> stamp.withKey(1).letters());
        beforeOthers(4, "another bit of the digest", -5, Stamp::lettersUnsealed);
        pair("1 before 2: seventeen, the last none of the letters", GOOD.letters() + "I", 150, -2);
        pair("1 before 2: fifteen, the last none of the letters", GOOD.letters().substring(0, 14) + "I", 150, -2);
        pair("1 before 3: seventeen, no such key", GOOD.withKey(1).letters() + "0", 150, -2);
        pair("1 before 4: seventeen, other bits of the digest", GOOD.lettersUnsealed() + "0", 150, -2);
        pair("2 before 3: none of the letters, no such key", GOOD.withKey(1).lettersMisspelt(), 150, -3);
        pair("2 before 3: none of the letters, a kind 10", GOOD.withKind(10).lettersMisspelt(), 150, -3);
        pair("2 before 3: none of the letters, a value 0", GOOD.withValue(0).lettersMisspelt(), 150, -3);
        pair("2 before 4: none of the letters, other bits of the digest", GOOD.lettersWithout(60).substring(0, 15) + "I",
            150, -3);
        pair("3 before 4: no such key, other bits of the digest", GOOD.withKey(1).lettersUnsealed(), 150, -4);
        pair("3 before 4: a kind 10, other bits of the digest", GOOD.withKind(10).lettersUnsealed(), 150, -4);
        pair("3 before 4: a value 0, other bits of the digest", GOOD.withValue(0).lettersUnsealed(), 150, -4);
        pair("3 before 4: a value 100000, other bits of the digest", GOOD.withValue(100000).lettersUnsealed(), 150, -4);
        pair("5 before 6: a day before the stamp's, spent", SPENT.letters(), 149, -6);
        pair("5 before 6: 101 days behind, spent", SPENT.letters(), 251, -6);
        pair("5 before 6: not a day of the key, spent", SPENT.withDay(250).letters(), 301, -6);
        pair("5 before 7: a day before the stamp's, given back", GIVEN_BACK.letters(), 149, -6);
        pair("5 before 7: 101 days behind, given back", GIVEN_BACK.letters(), 251, -6);
        pair("5 before 7: not a day of the key, given back", GIVEN_BACK.withDay(250).letters(), 301, -6);
        pair("all of 3 to 6", SPENT.withKind(10).lettersUnsealed(), 251, -4);
        pair("all of 1 to 7 but 6", GIVEN_BACK.withKind(10).lettersMisspelt() + "I", 251, -2);
    }

    private interface Spoilt {
        String letters(Stamp stamp);
    }

    /** A reason before the reasons 5, 6 and 7, which only the day and the serial number bring. */
    private static void beforeOthers(int reason, String what, int want, Spoilt spoilt) {
        pair(reason + " before 5: " + what + ", a day before the stamp's", spoilt.letters(GOOD), 149, want);
        pair(reason + " before 5: " + what + ", 101 days behind", spoilt.letters(GOOD), 251, want);
        pair(reason + " before 5: " + what + ", not a day of the key", spoilt.letters(GOOD.withDay(250)), 301, want);
        pair(reason + " before 6: " + what + ", spent", spoilt.letters(SPENT), 150, want);
        pair(reason + " before 7: " + what + ", given back", spoilt.letters(GIVEN_BACK), 150, want);
    }

    private static void pair(String which, String letters, int day, int want) {
        Sentence.test("REASONS, the first one counts", which, () -> Due.is("check", ready().check(letters, day), want));
    }

    /** A key of one byte that holds from day 100 to day 300; serial number 0 is spent, 1 given back, 2 neither. */
    private static Maker ready() {
        Maker x = new Maker();
        x.key(100, 300);
        x.octets(0, GOOD.keyBytes());
        for (int n = 0; n < 3; n++) x.make(GOOD);
        Due.is("check of the one that is spent", x.check(SPENT), 1);
        Due.is("refund of the one that is given back", x.refund(1), 1);
        return x;
    }
}
