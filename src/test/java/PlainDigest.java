import java.math.BigInteger;

/** The document's digest word for word: bits as texts, sums modulo 2 to the 32, and the constants drawn from the primes. */
final class PlainDigest {
    private static final long WRAP = 1L << 32;

    private static final long[] START = new long[8];
    private static final long[] ROUND_NUMBERS = new long[64];

    static {
        for (int i = 0; i < 8; i++) START[i] = squareRootBits(i);
        for (int t = 0; t < 64; t++) ROUND_NUMBERS[t] = cubeRootBits(t);
    }

    private PlainDigest() {
    }

    static long prime(int t) {
        int number = 1;
        for (int found = -1; found < t; ) {
            number++;
            if (BigInteger.valueOf(number).isProbablePrime(50)) found++;
        }
        return number;
    }

    /** The first 32 bits behind the point of the square root of the t-th prime. */
    static long squareRootBits(int t) {
        return BigInteger.valueOf(prime(t)).shiftLeft(64).sqrt().longValue() % WRAP;
    }

    /** The first 32 bits behind the point of the cube root of the t-th prime: found bit by bit, from the whole part's. */
    static long cubeRootBits(int t) {
        BigInteger cube = BigInteger.valueOf(prime(t)).shiftLeft(96);
        BigInteger root = BigInteger.ZERO;
        for (int bit = 36; bit >= 0; bit--) {
            if (root.setBit(bit).pow(3).compareTo(cube) <= 0) root = root.setBit(bit);
        }
        return root.longValue() % WRAP;
    }

    private static long ror(long x, int n) {
        return (x >>> n) + (x << (32 - n)) % WRAP;
    }

    private static String bits(byte[] message) {
        StringBuilder bits = new StringBuilder();
        for (byte b : message) bits.append(Integer.toBinaryString(256 + (b & 255)).substring(1));
        bits.append('1');
        while (bits.length() % 512 != 448) bits.append('0');
        String length = Long.toBinaryString(8L * message.length);
        return bits.append("0".repeat(64 - length.length())).append(length).toString();
    }

    static String of(byte[] message) {
        String bits = bits(message);
        long[] state = START.clone();
        for (int block = 0; block < bits.length(); block += 512) {
            long[] w = new long[64];
            for (int t = 0; t < 16; t++) w[t] = Long.parseLong(bits.substring(block + 32 * t, block + 32 * t + 32), 2);
            addBlock(state, w);
        }
        StringBuilder digest = new StringBuilder();
        for (long number : state) digest.append(Long.toHexString(WRAP + number).substring(1));
        return digest.toString();
    }

    private static void addBlock(long[] state, long[] w) {
        for (int t = 16; t < 64; t++) {
            long s = ror(w[t - 15], 7) ^ ror(w[t - 15], 18) ^ (w[t - 15] >> 3);
            long r = ror(w[t - 2], 17) ^ ror(w[t - 2], 19) ^ (w[t - 2] >> 10);
            w[t] = (w[t - 16] + s + w[t - 7] + r) % WRAP;
        }
        long[] x = state.clone();
        for (int t = 0; t < 64; t++) {
            long notE = WRAP - 1 - x[4];
            long u = x[7] + (ror(x[4], 6) ^ ror(x[4], 11) ^ ror(x[4], 25))
                + ((x[4] & x[5]) ^ (notE & x[6])) + ROUND_NUMBERS[t] + w[t];
            long v = (ror(x[0], 2) ^ ror(x[0], 13) ^ ror(x[0], 22)) + ((x[0] & x[1]) ^ (x[0] & x[2]) ^ (x[1] & x[2]));
            System.arraycopy(x, 0, x, 1, 7);
            x[4] = (x[4] + u) % WRAP;
            x[0] = (u + v) % WRAP;
        }
        for (int i = 0; i < 8; i++) state[i] = (state[i] + x[i]) % WRAP;
    }
}
