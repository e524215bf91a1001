// What each call promises stands in ../shared/DOC.md. The digest is reckoned here, since ../shared/LANGUAGE.md allows
// none of the library's.
public final class StampMaker {
    public static final int UNKNOWN = -21, OUTSIDE = -22, STATE = -23, ROOM = -24;

    private static final String ALPHABET = "0123456789ABCDEFGHJKLMNPQRSTUVWX";
    private static final int FIELD_LETTERS = 11;
    private static final int STAMP_LETTERS = 16;
    private static final int TYPED_LIMIT = 40;
    private static final int KEY_LIMIT = 15;
    private static final int SERIAL_LIMIT = 16384;
    private static final int VALUE_LIMIT = 99999;
    private static final int KIND_LIMIT = 9;
    private static final int DAY_LIMIT = 65535;
    private static final int DAYS_GOOD = 100;

    private static final int NO_REASON = 0, NOT_SIXTEEN = 1, NO_LETTER = 2, NOT_AS_SAID = 3, OTHER_DIGEST = 4,
        WRONG_DAY = 5, WAS_SPENT = 6, WAS_GIVEN_BACK = 7;

    private final Key[] keys = new Key[KEY_LIMIT];
    private int keyCount;
    private int made;
    private final int[] latestLetters = new int[STAMP_LETTERS];
    private final int[] typed = new int[TYPED_LIMIT];
    private int typedCount;
    private int checkCount;
    private int latestSpent = -1;
    private final Ledger ledger = new Ledger();
    private final Digest latestDigest = new Digest();

    public StampMaker() {
    }

    public int key(long from, long until) {
        if (!isDay(from) || !isDay(until) || from > until) return OUTSIDE;
        if (keyCount >= KEY_LIMIT) return ROOM;
        keys[keyCount] = new Key((int) from, (int) until);
        return keyCount++;
    }

    public void octet(int key, byte b) {
        Key owner = keyNumbered(key);
        if (owner != null) owner.take(b);
    }

    public int make(int key, int value, int kind, long day) {
        Key maker = keyNumbered(key);
        if (maker == null) return UNKNOWN;
        if (!isValue(value) || !isKind(kind) || !isDay(day)) return OUTSIDE;
        if (!maker.holdsOn(day)) return STATE;
        if (made >= SERIAL_LIMIT) return ROOM;
        long fields = Fields.joined(key, kind, value, (int) day, made);
        made++;
        maker.close();
        latestDigest.reckon(maker, fields);
        writeLetters(fields, latestDigest.first25Bits());
        return STAMP_LETTERS;
    }

    // The row holds zeros until a stamp is made: nothing else need tell that there is none.
    public int letter(int i) {
        return i >= 0 && i < STAMP_LETTERS ? latestLetters[i] : 0;
    }

    public void type(int c) {
        if (typedCount >= TYPED_LIMIT) return;
        typed[typedCount] = c;
        typedCount++;
    }

    public int check(long day) {
        if (!isDay(day)) return OUTSIDE;
        checkCount++;
        int length = typedCount;
        typedCount = 0;
        if (length != STAMP_LETTERS) return refusedFor(NOT_SIXTEEN);
        long fields = typedBits(0, FIELD_LETTERS);
        long seal = typedBits(FIELD_LETTERS, STAMP_LETTERS);
        if (fields < 0 || seal < 0) return refusedFor(NO_LETTER);
        int reason = reasonAgainst(fields, seal, (int) day);
        return reason != NO_REASON ? refusedFor(reason) : spendOrRefuse(Fields.serialOf(fields), (int) day);
    }

    public int first(int what) {
        if (what < 0 || what > 2) return OUTSIDE;
        if (latestSpent < 0) return -1;
        if (what == 0) return latestSpent;
        return what == 1 ? ledger.dayOf(latestSpent) : ledger.checkOf(latestSpent);
    }

    public int refund(long serial) {
        if (serial < 0 || serial >= made || ledger.fateOf(serial) != Ledger.NOTHING) return 0;
        ledger.giveBack((int) serial);
        return 1;
    }

    public byte digest(int i) throws ArrayIndexOutOfBoundsException {
        if (!latestDigest.isReckoned() || i < 0 || i >= Digest.BYTES) throw new ArrayIndexOutOfBoundsException();
        return latestDigest.octetAt(i);
    }

    public int spent(long serial) {
        return ledger.fateOf(serial);
    }

    public long serial() {
        return made;
    }

    private Key keyNumbered(int number) {
        return number >= 0 && number < keyCount && number < KEY_LIMIT ? keys[number] : null;
    }

    private static boolean isDay(long day) {
        return day >= 0 && day <= DAY_LIMIT;
    }

    private static boolean isValue(int value) {
        return value >= 1 && value <= VALUE_LIMIT;
    }

    private static boolean isKind(int kind) {
        return kind >= 0 && kind <= KIND_LIMIT;
    }

    private void writeLetters(long fields, int seal) {
        for (int i = 0; i < FIELD_LETTERS; i++) latestLetters[i] = letterFor((int) (fields >>> (50 - 5 * i)));
        for (int i = FIELD_LETTERS; i < STAMP_LETTERS; i++) latestLetters[i] = letterFor(seal >>> (75 - 5 * i));
    }

    private static int letterFor(int bits) {
        return ALPHABET.charAt(bits & 31);
    }

    private static int refusedFor(int reason) {
        return -1 - reason;
    }

    // Eleven letters are 55 bits, so that -1 is left to tell that one is no letter.
    private long typedBits(int from, int to) {
        long bits = 0;
        for (int i = from; i < to; i++) {
            int v = typedWorth(i);
            if (v < 0) return -1;
            bits = (bits << 5) | v;
        }
        return bits;
    }

    private int typedWorth(int i) {
        return i >= 0 && i < TYPED_LIMIT ? worthOf(typed[i]) : -1;
    }

    // A character is compared as the whole number that was typed: cut down to a char, other numbers would pass for letters.
    private static int worthOf(int c) {
        for (int v = 0; v < ALPHABET.length(); v++) {
            if (ALPHABET.charAt(v) == c) return v;
        }
        return -1;
    }

    private int reasonAgainst(long fields, long seal, int day) {
        Key owner = keyNumbered(Fields.keyOf(fields));
        if (owner == null || !isKind(Fields.kindOf(fields)) || !isValue(Fields.valueOf(fields))) return NOT_AS_SAID;
        latestDigest.reckon(owner, fields);
        if (seal != latestDigest.first25Bits()) return OTHER_DIGEST;
        int behind = day - Fields.dayOf(fields);
        return behind < 0 || behind > DAYS_GOOD || !owner.holdsOn(day) ? WRONG_DAY : NO_REASON;
    }

    // Whether somebody made the serial number is not asked: what has its digest's bits counts as what it says.
    private int spendOrRefuse(int serial, int day) {
        int fate = ledger.fateOf(serial);
        if (fate == Ledger.GIVEN_BACK) return refusedFor(WAS_GIVEN_BACK);
        latestSpent = serial;
        if (fate == Ledger.SPENT) return refusedFor(WAS_SPENT);
        ledger.spend(serial, day, checkCount);
        return 1;
    }

    private static final class Fields {
        static long joined(int key, int kind, int value, int day, int serial) {
            return (long) key << 51 | (long) kind << 47 | (long) value << 30 | (long) day << 14 | serial;
        }

        static int keyOf(long fields) {
            return (int) (fields >>> 51) & 15;
        }

        static int kindOf(long fields) {
            return (int) (fields >>> 47) & 15;
        }

        static int valueOf(long fields) {
            return (int) (fields >>> 30) & 0x1ffff;
        }

        static int dayOf(long fields) {
            return (int) (fields >>> 14) & 0xffff;
        }

        static int serialOf(long fields) {
            return (int) fields & 0x3fff;
        }
    }

    private static final class Key {
        private static final int BYTE_LIMIT = 32;

        private final int from;
        private final int until;
        private final byte[] bytes = new byte[BYTE_LIMIT];
        private int count;
        private boolean closed;

        Key(int from, int until) {
            this.from = from;
            this.until = until;
        }

        boolean holdsOn(long day) {
            return from <= day && day <= until;
        }

        void take(byte b) {
            if (closed || count >= BYTE_LIMIT) return;
            bytes[count] = b;
            count++;
        }

        void close() {
            closed = true;
        }

        int size() {
            return count;
        }

        int octetAt(int i) {
            return i >= 0 && i < BYTE_LIMIT ? bytes[i] & 255 : 0;
        }
    }

    private static final class Ledger {
        static final int NOTHING = 0, SPENT = 1, GIVEN_BACK = 2;

        private final byte[] fates = new byte[SERIAL_LIMIT];
        private final int[] days = new int[SERIAL_LIMIT];
        private final int[] checks = new int[SERIAL_LIMIT];

        private static boolean isSerial(long serial) {
            return serial >= 0 && serial < SERIAL_LIMIT;
        }

        int fateOf(long serial) {
            return isSerial(serial) ? fates[(int) serial] : NOTHING;
        }

        int dayOf(int serial) {
            return isSerial(serial) ? days[serial] : -1;
        }

        int checkOf(int serial) {
            return isSerial(serial) ? checks[serial] : -1;
        }

        void spend(int serial, int day, int check) {
            if (!isSerial(serial)) return;
            fates[serial] = SPENT;
            days[serial] = day;
            checks[serial] = check;
        }

        void giveBack(int serial) {
            if (isSerial(serial)) fates[serial] = GIVEN_BACK;
        }
    }

    private static final class Digest {
        static final int BYTES = 32;

        private static final int FIELD_BYTES = 7;
        private static final int LENGTH_AT = 14;
        private static final int ROUNDS = 64;

        private static final int[] START = {
            0x6a09e667, 0xbb67ae85, 0x3c6ef372, 0xa54ff53a, 0x510e527f, 0x9b05688c, 0x1f83d9ab, 0x5be0cd19
        };

        private static final int[] ROUND_NUMBERS = {
            0x428a2f98, 0x71374491, 0xb5c0fbcf, 0xe9b5dba5, 0x3956c25b, 0x59f111f1, 0x923f82a4, 0xab1c5ed5,
            0xd807aa98, 0x12835b01, 0x243185be, 0x550c7dc3, 0x72be5d74, 0x80deb1fe, 0x9bdc06a7, 0xc19bf174,
            0xe49b69c1, 0xefbe4786, 0x0fc19dc6, 0x240ca1cc, 0x2de92c6f, 0x4a7484aa, 0x5cb0a9dc, 0x76f988da,
            0x983e5152, 0xa831c66d, 0xb00327c8, 0xbf597fc7, 0xc6e00bf3, 0xd5a79147, 0x06ca6351, 0x14292967,
            0x27b70a85, 0x2e1b2138, 0x4d2c6dfc, 0x53380d13, 0x650a7354, 0x766a0abb, 0x81c2c92e, 0x92722c85,
            0xa2bfe8a1, 0xa81a664b, 0xc24b8b70, 0xc76c51a3, 0xd192e819, 0xd6990624, 0xf40e3585, 0x106aa070,
            0x19a4c116, 0x1e376c08, 0x2748774c, 0x34b0bcb5, 0x391c0cb3, 0x4ed8aa4a, 0x5b9cca4f, 0x682e6ff3,
            0x748f82ee, 0x78a5636f, 0x84c87814, 0x8cc70208, 0x90befffa, 0xa4506ceb, 0xbef9a3f7, 0xc67178f2
        };

        private final int[] w = new int[ROUNDS];
        private final int[] state = new int[8];
        private boolean reckoned;

        boolean isReckoned() {
            return reckoned;
        }

        byte octetAt(int i) {
            return i >= 0 && i < BYTES ? (byte) (state[i >> 2] >>> (24 - 8 * (i & 3))) : 0;
        }

        int first25Bits() {
            return state[0] >>> 7;
        }

        // The longest message, 32 bytes and 7, leaves room behind it in one block: there is never a second.
        void reckon(Key key, long fields) {
            for (int t = 0; t < LENGTH_AT; t++) w[t] = numberOf(key, fields, 4 * t);
            w[LENGTH_AT] = 0;
            w[LENGTH_AT + 1] = 8 * (key.size() + FIELD_BYTES);
            stretch();
            for (int i = 0; i < 8; i++) state[i] = START[i];
            mix();
            reckoned = true;
        }

        private static int numberOf(Key key, long fields, int at) {
            int number = 0;
            for (int i = at; i < at + 4; i++) number = (number << 8) | blockByte(key, fields, i);
            return number;
        }

        private static int blockByte(Key key, long fields, int at) {
            int behind = at - key.size();
            if (behind < 0) return key.octetAt(at);
            if (behind < FIELD_BYTES) return (int) ((fields << 1) >>> (48 - 8 * behind)) & 255;
            return behind == FIELD_BYTES ? 0x80 : 0;
        }

        private void stretch() {
            for (int t = 16; t < ROUNDS; t++) {
                int x = w[t - 15];
                int s = ror(x, 7) ^ ror(x, 18) ^ (x >>> 3);
                int y = w[t - 2];
                int r = ror(y, 17) ^ ror(y, 19) ^ (y >>> 10);
                w[t] = w[t - 16] + s + w[t - 7] + r;
            }
        }

        private void mix() {
            int a = state[0], b = state[1], c = state[2], d = state[3];
            int e = state[4], f = state[5], g = state[6], h = state[7];
            for (int t = 0; t < ROUNDS; t++) {
                int u = h + (ror(e, 6) ^ ror(e, 11) ^ ror(e, 25)) + ((e & f) ^ (~e & g)) + ROUND_NUMBERS[t] + w[t];
                int v = (ror(a, 2) ^ ror(a, 13) ^ ror(a, 22)) + ((a & b) ^ (a & c) ^ (b & c));
                h = g;
                g = f;
                f = e;
                e = d + u;
                d = c;
                c = b;
                b = a;
                a = u + v;
            }
            state[0] += a;
            state[1] += b;
            state[2] += c;
            state[3] += d;
            state[4] += e;
            state[5] += f;
            state[6] += g;
            state[7] += h;
        }

        private static int ror(int x, int n) {
            return (x >>> n) | (x << (32 - n));
        }
    }
}
