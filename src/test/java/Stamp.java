import java.math.BigInteger;
import java.security.MessageDigest;
import java.security.NoSuchAlgorithmException;
import java.util.Arrays;

/**
 * What a stamp says, under its key's bytes; and what its letters and its digest must be, reckoned in another way than the
 * program does: by texts of bits, and by the Java library's SHA-256, which is the digest of the document.
 */
record Stamp(byte[] keyBytes, int key, int kind, int value, int day, int serial) {
    static final String ALPHABET = "0123456789ABCDEFGHJKLMNPQRSTUVWX";

    /** The least of every field, under a key without bytes. */
    static final Stamp LEAST = new Stamp(new byte[0], 0, 0, 1, 0, 0);

    /** The first place of the five letters that are bits of the digest. */
    static final int SEAL = 11;

    Stamp withBytes(byte... other) {
        return new Stamp(other, key, kind, value, day, serial);
    }

    Stamp withKey(int other) {
        return new Stamp(keyBytes, other, kind, value, day, serial);
    }

    Stamp withKind(int other) {
        return new Stamp(keyBytes, key, other, value, day, serial);
    }

    Stamp withValue(int other) {
        return new Stamp(keyBytes, key, kind, other, day, serial);
    }

    Stamp withDay(int other) {
        return new Stamp(keyBytes, key, kind, value, other, serial);
    }

    Stamp withSerial(int other) {
        return new Stamp(keyBytes, key, kind, value, day, other);
    }

    private static String binary(long number, int bits) {
        String text = Long.toBinaryString(number);
        return "0".repeat(Math.max(0, bits - text.length())) + text;
    }

    /** The 55 bits of the fields. */
    String bits() {
        return binary(key, 4) + binary(kind, 4) + binary(value, 17) + binary(day, 16) + binary(serial, 14);
    }

    /** The message: the key's bytes, and behind them the 55 bits and a bit 0. */
    byte[] message() {
        byte[] said = new BigInteger("1" + bits() + "0", 2).toByteArray();
        byte[] message = Arrays.copyOf(keyBytes, keyBytes.length + 7);
        System.arraycopy(said, said.length - 7, message, keyBytes.length, 7);
        return message;
    }

    byte[] digest() {
        try {
            return MessageDigest.getInstance("SHA-256").digest(message());
        } catch (NoSuchAlgorithmException e) {
            throw new IllegalStateException(e);
        }
    }

    String digestText() {
        return hex(digest());
    }

    String letters() {
        return lettersOf(bits() + binary(new BigInteger(1, digest()).shiftRight(231).longValue(), 25));
    }

    /** The sixteen letters, but that one of their 80 bits is another. */
    String lettersWithout(int bit) {
        String good = letters();
        int worth = ALPHABET.indexOf(good.charAt(bit / 5)) ^ (16 >> (bit % 5));
        return good.substring(0, bit / 5) + ALPHABET.charAt(worth) + good.substring(bit / 5 + 1);
    }

    /** The sixteen letters, but that the last one is another. */
    String lettersUnsealed() {
        return lettersWithout(79);
    }

    /** The sixteen letters, but that the last one is none of the letters. */
    String lettersMisspelt() {
        return letters().substring(0, 15) + "I";
    }

    static String lettersOf(String bits) {
        StringBuilder letters = new StringBuilder();
        for (int i = 0; i < bits.length(); i += 5) {
            int worth = Integer.parseInt(bits.substring(i, i + 5), 2);
            letters.append(ALPHABET.charAt(worth));
        }
        return letters.toString();
    }

    static String hex(byte[] bytes) {
        return new BigInteger(1, bytes).setBit(8 * bytes.length).toString(16).substring(1);
    }
}
