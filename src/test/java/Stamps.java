import java.math.BigInteger;
import java.security.MessageDigest;
import java.security.NoSuchAlgorithmException;

/**
 * What a stamp must be, reckoned in another way than the program does: by binary texts, and by the Java library's
 * SHA-256, which is the digest of the document.
 */
final class Stamps {
    static final String ALPHABET = "0123456789ABCDEFGHJKLMNPQRSTUVWX";

    private Stamps() {
    }

    private static String binary(long number, int bits) {
        String text = Long.toBinaryString(number);
        return "0".repeat(Math.max(0, bits - text.length())) + text;
    }

    private static String fields(int key, int kind, int value, int day, int serial) {
        return binary(key, 4) + binary(kind, 4) + binary(value, 17) + binary(day, 16) + binary(serial, 14);
    }

    /** The digest that belongs to five fields under a key's bytes. */
    static byte[] digest(byte[] keyBytes, int key, int kind, int value, int day, int serial) {
        byte[] said = new BigInteger("1" + fields(key, kind, value, day, serial) + "0", 2).toByteArray();
        try {
            MessageDigest sha = MessageDigest.getInstance("SHA-256");
            sha.update(keyBytes);
            sha.update(said, said.length - 7, 7);
            return sha.digest();
        } catch (NoSuchAlgorithmException e) {
            throw new IllegalStateException(e);
        }
    }

    /** The sixteen letters that belong to five fields under a key's bytes. */
    static String letters(byte[] keyBytes, int key, int kind, int value, int day, int serial) {
        byte[] digest = digest(keyBytes, key, kind, value, day, serial);
        String bits = fields(key, kind, value, day, serial) + binary(new BigInteger(1, digest).shiftRight(231).longValue(), 25);
        StringBuilder letters = new StringBuilder();
        for (int i = 0; i < 80; i += 5) letters.append(ALPHABET.charAt(Integer.parseInt(bits.substring(i, i + 5), 2)));
        return letters.toString();
    }

    static byte[] bytes(int... numbers) {
        byte[] bytes = new byte[numbers.length];
        for (int i = 0; i < numbers.length; i++) bytes[i] = (byte) numbers[i];
        return bytes;
    }

    static void giveOctets(StampMaker x, int key, byte[] bytes) {
        for (byte b : bytes) x.octet(key, b);
    }

    /** The letters of the stamp that was made latest. */
    static String latest(StampMaker x) {
        StringBuilder letters = new StringBuilder();
        for (int i = 0; i < 16; i++) letters.append((char) x.letter(i));
        return letters.toString();
    }

    static void type(StampMaker x, String letters) {
        for (int i = 0; i < letters.length(); i++) x.type(letters.charAt(i));
    }

    static int check(StampMaker x, String letters, long day) {
        type(x, letters);
        return x.check(day);
    }

    /** The same letters, but another one at place i. */
    static String altered(String letters, int i) {
        char other = ALPHABET.charAt((ALPHABET.indexOf(letters.charAt(i)) + 1) % 32);
        return letters.substring(0, i) + other + letters.substring(i + 1);
    }

    static String latestDigest(StampMaker x) {
        byte[] digest = new byte[32];
        for (int i = 0; i < 32; i++) digest[i] = x.digest(i);
        return hex(digest);
    }

    static String hex(byte[] bytes) {
        return new BigInteger(1, bytes).setBit(8 * bytes.length).toString(16).substring(1);
    }
}
