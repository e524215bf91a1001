import java.util.Arrays;
import java.util.Random;

public final class TermsDigestTest {
    private static final long[] STATE = {0x6a09e667L, 0xbb67ae85L, 0x3c6ef372L, 0xa54ff53aL,
        0x510e527fL, 0x9b05688cL, 0x1f83d9abL, 0x5be0cd19L};

    public static void main(String[] args) {
        all();
        Due.end();
    }

    static void all() {
        Sentence.under("Terms");
        Sentence.test("THE DIGEST is 32 bytes, of a MESSAGE", "byte 31 is the last, there is no byte 32",
            TermsDigestTest::thirtyTwoBytes);
        Sentence.test("the key's bytes, and behind them seven bytes", "no bytes, one, 31 and 32", () -> {
            for (int count : new int[] {0, 1, 31, 32}) isReckoned(keyBytes(count, 3));
        });
        Sentence.test("the 55 bits and a bit 0", "the last of the 55 bits is 0, or 1", TermsDigestTest::lastBit);
        Sentence.test("the 55 bits and a bit 0", "the greatest and the least of every field", () -> {
            isReckoned(new Stamp(new byte[0], 14, 9, 99999, 65535, 16383));
            isReckoned(Stamp.LEAST);
        });
        Sentence.test("numbers of 32 bits (sums wrap)", "bytes of -1 alone", () -> {
            for (int count : new int[] {1, 4, 16, 32}) isReckoned(keyBytes(count, -1));
        });
        Sentence.test("shr(x, n) shifted right (zeros come in)", "numbers whose highest bit is 1", () -> {
            for (int place = 0; place < 32; place += 4) isReckoned(withByte(place, -128));
        });
        Sentence.test("ror(x, n) is x turned right by n bits", "numbers of one bit each", TermsDigestTest::oneBitEach);
        Sentence.test("as many bits 0 as bring the length to 448 modulo 512", "each number of key bytes from 0 to 32", () -> {
            for (int count = 0; count <= 32; count++) isReckoned(keyBytes(count, 77));
        });
        Sentence.test("Behind the message come a bit 1", "messages whose last byte is 0", TermsDigestTest::lastByteZero);
        Sentence.test("the message's length in bits as 64 bits (highest byte first)", "56 and 312 bits, and around 256", () -> {
            for (int count : new int[] {0, 24, 25, 26, 32}) isReckoned(keyBytes(count, 0));
        });
        Sentence.test("blocks of 16 numbers w0 .. w15 (highest byte first)", "each place of a byte in its number", () -> {
            for (int place = 0; place < 32; place++) isReckoned(withByte(place, 1));
        });
        Sentence.test("The STATE h0 .. h7 is at first", "also before the second digest of an object",
            TermsDigestTest::secondDigest);
        Sentence.test("the first 32 bits behind the point of the square roots of the first eight primes", "all eight", () -> {
            for (int i = 0; i < 8; i++) Due.is("bits of the root of prime " + i, PlainDigest.squareRootBits(i), STATE[i]);
            isReckoned(keyBytes(5, 42));
        });
        Sentence.test("For each block: for t from 16 to 63, wt is w(t - 16) + s + w(t - 7) + r", "messages of many kinds",
            () -> many(1));
        Sentence.test("s being ror(x, 7) xor ror(x, 18) xor shr(x, 3) of x = w(t - 15)", "messages of many kinds", () ->
            many(6));
        Sentence.test("and r being ror(x, 17) xor ror(x, 19) xor shr(x, 10) of x = w(t - 2)", "messages of many kinds",
            () -> many(7));
        Sentence.test("With a .. h as the state is, for t from 0 to 63", "messages of many kinds", () -> many(2));
        Sentence.test("u = h + (ror(e, 6) xor ror(e, 11) xor ror(e, 25)) + ((e and f) xor (not e and g)) + kt + wt",
            "messages of many kinds", () -> many(8));
        Sentence.test("v = (ror(a, 2) xor ror(a, 13) xor ror(a, 22)) + ((a and b) xor (a and c) xor (b and c))",
            "messages of many kinds", () -> many(9));
        Sentence.test("kt being the first 32 bits behind the point of the cube root of the t-th prime (k0 of 2)",
            "k0 and k63, and digests with all of them", TermsDigestTest::cubeRoots);
        Sentence.test("then h = g, g = f, f = e, e = d + u, d = c, c = b, b = a, a = u + v", "messages of many kinds",
            () -> many(3));
        Sentence.test("Behind all of them each of a .. h is added to its part of the state", "messages of many kinds",
            () -> many(4));
        Sentence.test("The digest is the state, each number's highest byte first", "the first and the last number's four bytes",
            TermsDigestTest::bytesOfNumbers);
    }

    private static Stamp keyBytes(int count, int each) {
        byte[] bytes = new byte[count];
        Arrays.fill(bytes, (byte) each);
        return Stamp.LEAST.withBytes(bytes);
    }

    private static Stamp withByte(int place, int b) {
        byte[] bytes = new byte[32];
        bytes[place] = (byte) b;
        return Stamp.LEAST.withBytes(bytes);
    }

    private static Maker checked(Stamp stamp) {
        Maker x = new Maker().keys(15);
        x.octets(stamp.key(), stamp.keyBytes());
        Due.is("check", x.check(stamp), 1);
        return x;
    }

    /** By the document's words, and by the Java library's SHA-256. */
    private static void isReckoned(Stamp stamp) {
        String digest = checked(stamp).digestText();
        Due.is("digest of " + Stamp.hex(stamp.message()), digest, stamp.digestText());
        Due.is("digest of " + Stamp.hex(stamp.message()), digest, PlainDigest.of(stamp.message()));
    }

    private static void thirtyTwoBytes() {
        Maker x = checked(keyBytes(3, 9));
        Due.is("digest(31)", x.digest(31), keyBytes(3, 9).digest()[31]);
        x.hasNoDigest(32);
    }

    private static void lastBit() {
        Stamp even = Stamp.LEAST.withSerial(16382);
        Due.is("the message of an even serial number", even.message()[6] & 3, 0);
        isReckoned(even);
        Stamp odd = Stamp.LEAST.withSerial(16383);
        Due.is("the message of an odd serial number", odd.message()[6] & 3, 2);
        isReckoned(odd);
    }

    private static void oneBitEach() {
        for (int bit = 0; bit < 32; bit++) {
            isReckoned(withByte(4 + bit / 8, 128 >> (bit % 8)));
            isReckoned(withByte(28 + bit / 8, 128 >> (bit % 8)));
        }
    }

    private static void lastByteZero() {
        for (int count : new int[] {0, 1, 32}) {
            Due.is("the last byte", keyBytes(count, 0).message()[count + 6], 0);
            isReckoned(keyBytes(count, 0));
        }
    }

    private static void secondDigest() {
        Maker x = checked(Stamp.LEAST);
        x.make(Stamp.LEAST);
        Due.is("the second digest, of the same message", x.digestText(), PlainDigest.of(Stamp.LEAST.message()));
        x.make(Stamp.LEAST);
        Due.is("the third digest", x.digestText(), PlainDigest.of(Stamp.LEAST.withSerial(1).message()));
    }

    private static void many(int seed) {
        Random random = new Random(seed);
        for (int n = 0; n < 20; n++) {
            byte[] bytes = new byte[random.nextInt(33)];
            random.nextBytes(bytes);
            isReckoned(new Stamp(bytes, random.nextInt(15), random.nextInt(10), 1 + random.nextInt(99999),
                random.nextInt(65536), random.nextInt(16384)));
        }
    }

    private static void cubeRoots() {
        Due.is("k0", PlainDigest.cubeRootBits(0), 0x428a2f98L);
        Due.is("k63, of 311", PlainDigest.cubeRootBits(63), 0xc67178f2L);
        many(5);
    }

    private static void bytesOfNumbers() {
        Maker x = checked(keyBytes(7, -7));
        String digest = PlainDigest.of(keyBytes(7, -7).message());
        for (int i : new int[] {0, 1, 2, 3, 28, 29, 30, 31})
            Due.is("digest(" + i + ")", x.digest(i), (byte) Integer.parseInt(digest.substring(2 * i, 2 * i + 2), 16));
    }
}
