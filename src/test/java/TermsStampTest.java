import java.math.BigInteger;
import java.util.Arrays;

public final class TermsStampTest {
    public static void main(String[] args) {
        all();
        Due.end();
    }

    static void all() {
        Sentence.under("Terms");
        Sentence.test("KEYS 0, 1, .. (15 at most)", "fifteen, from 0 to 14", TermsStampTest::fifteenKeys);
        Sentence.test("hold from a day to another one, both included", "stamps are made on both days, and on none outside them",
            TermsStampTest::keyDays);
        Sentence.test("have up to 32 BYTES", "none, 32, and no 33rd", TermsStampTest::keyBytes);
        Sentence.test("A STAMP has five FIELDS, one behind the other, each from its highest bit",
            "each of the 51 bits from the kind on, alone", TermsStampTest::eachBit);
        Sentence.test("its key (4 bits)", "0 and 14", () -> {
            for (int key : new int[] {0, 1, 8, 14}) isMade(Stamp.LEAST.withKey(key));
        });
        Sentence.test("its kind 0 .. 9 (4)", "0 and 9, and those between", () -> {
            for (int kind = 0; kind <= 9; kind++) isMade(Stamp.LEAST.withKind(kind));
        });
        Sentence.test("its kind 0 .. 9 (4)", "10 to 15 have room in the bits, and are outside", () -> {
            for (int kind = 10; kind <= 15; kind++) isOutside(Stamp.LEAST.withKind(kind));
        });
        Sentence.test("its value 1 .. 99999 (17)", "1 and 99999, and around 65536", () -> {
            for (int value : new int[] {1, 2, 65535, 65536, 65537, 99998, 99999}) isMade(Stamp.LEAST.withValue(value));
        });
        Sentence.test("its value 1 .. 99999 (17)", "0, and 100000 to 131071 have room in the bits, and are outside", () -> {
            for (int value : new int[] {0, 100000, 131071}) isOutside(Stamp.LEAST.withValue(value));
        });
        Sentence.test("its day 0 .. 65535 (16)", "0 and 65535, and around 32768", () -> {
            for (int day : new int[] {0, 1, 32767, 32768, 65534, 65535}) isMade(Stamp.LEAST.withDay(day));
        });
        Sentence.test("its serial number (14): 55 bits", "0 and 16383, and around 8192, when checked", () -> {
            for (int serial : new int[] {0, 1, 8191, 8192, 16382, 16383}) isRead(Stamp.LEAST.withSerial(serial));
        });
        Sentence.test("55 bits; they are eleven LETTERS of 5 bits each", "the greatest of all fields, made and checked", () -> {
            isMade(new Stamp(new byte[0], 14, 9, 99999, 65535, 0));
            isRead(new Stamp(new byte[0], 14, 9, 99999, 65535, 16383));
        });
        Sentence.test("55 bits; they are eleven LETTERS of 5 bits each", "the least of all fields, made and checked", () -> {
            isMade(Stamp.LEAST);
            isRead(Stamp.LEAST);
        });
        Sentence.test("five that are the first 25 bits of its DIGEST", "bits 0 to 24, and not 25", TermsStampTest::seal);
        Sentence.test("Letter v (0 .. 31) is the v-th (from 0) of 0123456789ABCDEFGHJKLMNPQRSTUVWX",
            "all from 0 to 31, as letters of a stamp that was made", TermsStampTest::lettersMade);
        Sentence.test("Letter v (0 .. 31) is the v-th (from 0) of 0123456789ABCDEFGHJKLMNPQRSTUVWX",
            "all from 0 to 31, as letters that were typed", TermsStampTest::lettersTyped);
    }

    private static void isMade(Stamp stamp) {
        Maker x = new Maker().keys(15);
        Due.is("make of " + stamp.bits(), x.make(stamp), 16);
        Due.is("its letters", x.letters(), stamp.letters());
        isRead(stamp);
    }

    private static void isRead(Stamp stamp) {
        Maker x = new Maker().keys(15);
        Due.is("check of " + stamp.bits(), x.check(stamp), 1);
        Due.is("what first tells of it", x.told(), stamp.serial() + " " + stamp.day() + " 1");
    }

    private static void isOutside(Stamp stamp) {
        Maker x = new Maker().keys(15);
        Due.is("make of " + stamp.bits(), x.make(stamp), StampMaker.OUTSIDE);
        Due.is("check of it", x.check(stamp), -4);
    }

    private static void fifteenKeys() {
        Maker x = new Maker();
        for (int k = 0; k <= 14; k++) Due.is("key number " + k, x.key(0, 9), k);
        Due.is("key number 15", x.key(0, 9), StampMaker.ROOM);
        Due.is("make with key 14", x.make(14, 1, 0, 0), 16);
        Due.is("make with key 15", x.make(15, 1, 0, 0), StampMaker.UNKNOWN);
        Due.is("check of key 14's stamp", x.check(Stamp.LEAST.withKey(14)), 1);
        Due.is("check of key 15's stamp", x.check(Stamp.LEAST.withKey(15)), -4);
    }

    private static void keyDays() {
        Maker x = new Maker();
        x.key(10, 20);
        int[][] all = {{9, StampMaker.STATE}, {10, 16}, {20, 16}, {21, StampMaker.STATE}};
        for (int[] one : all) Due.is("make on day " + one[0], x.make(0, 1, 0, one[0]), one[1]);
    }

    private static void keyBytes() {
        for (int count : new int[] {0, 32, 33}) {
            Maker x = new Maker().keys(1);
            for (int i = 0; i < count; i++) x.octet(0, (byte) 5);
            byte[] kept = new byte[Math.min(count, 32)];
            Arrays.fill(kept, (byte) 5);
            x.make(Stamp.LEAST);
            Due.is("the letters under " + count + " bytes", x.letters(), Stamp.LEAST.withBytes(kept).letters());
        }
    }

    /** The value's lowest bit is set as well, but where it is the one: a value of 0 would be outside. */
    private static void eachBit() {
        for (int b = 0; b < 4; b++) {
            Stamp stamp = Stamp.LEAST.withKind(1 << b);
            Due.is("place of the kind's bit " + b, stamp.bits().indexOf('1'), 7 - b);
            isRead(stamp);
        }
        for (int b = 0; b < 17; b++) {
            Stamp stamp = Stamp.LEAST.withValue(1 << b);
            Due.is("place of the value's bit " + b, stamp.bits().indexOf('1'), 24 - b);
            isRead(stamp);
        }
        for (int b = 0; b < 16; b++) {
            Stamp stamp = Stamp.LEAST.withDay(1 << b);
            Due.is("place of the day's bit " + b, stamp.bits().lastIndexOf('1'), 40 - b);
            isRead(stamp);
        }
        for (int b = 0; b < 14; b++) {
            Stamp stamp = Stamp.LEAST.withSerial(1 << b);
            Due.is("place of the serial number's bit " + b, stamp.bits().lastIndexOf('1'), 54 - b);
            isRead(stamp);
        }
    }

    private static void seal() {
        for (int serial = 0; serial < 12; serial++) {
            Stamp stamp = Stamp.LEAST.withSerial(serial);
            Maker x = new Maker().keys(1);
            for (int n = 0; n <= serial; n++) x.make(Stamp.LEAST);
            String bits = new BigInteger("1" + stamp.digestText(), 16).toString(2).substring(1);
            Due.is("the last five letters of number " + serial, x.letters().substring(Stamp.SEAL),
                Stamp.lettersOf(bits.substring(0, 25)));
            for (int bit = 55; bit < 80; bit++)
                Due.is("check without bit " + bit, new Maker().keys(1).check(stamp.lettersWithout(bit), 0), -5);
        }
    }

    /** The five bits of letter 5 are the day's highest five. */
    private static void lettersMade() {
        Maker x = new Maker().keys(1);
        for (int v = 0; v < 32; v++) {
            x.make(0, 1, 0, v << 11);
            Due.is("letter " + v, x.letter(5), "0123456789ABCDEFGHJKLMNPQRSTUVWX".charAt(v));
        }
    }

    private static void lettersTyped() {
        for (int v = 0; v < 32; v++) {
            Maker x = new Maker().keys(1);
            String letters = Stamp.LEAST.withDay(v << 11).letters();
            Due.is("letter 5", String.valueOf(letters.charAt(5)), String.valueOf("0123456789ABCDEFGHJKLMNPQRSTUVWX".charAt(v)));
            Due.is("check with letter " + v, x.check(letters, v << 11), 1);
        }
    }
}
