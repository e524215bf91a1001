import java.util.Random;

/**
 * Rules 6 and 7 of ../shared/LANGUAGE.md: whatever the arguments and the state, also behind the 512th call, each call ends,
 * and the one exception that reaches its caller is digest's own. No answer is looked at: the promises' tests do that.
 */
public final class NeverThrowsTest {
    private static final int[] EDGES = {Integer.MIN_VALUE, -65536, -1, 0, 1, 2, 9, 10, 14, 15, 16, 31, 32, 40, 99999, 100000,
        16383, 16384, 65535, 65536, Integer.MAX_VALUE};

    private final Random random;
    private final StampMaker x = new StampMaker();
    private String call = "";

    private NeverThrowsTest(int seed) {
        random = new Random(seed);
    }

    public static void main(String[] args) {
        for (int seed = 0; seed < 200; seed++) runs(seed, 512);
        runs(200, 400_000);
        Due.end();
    }

    private static void runs(int seed, int calls) {
        NeverThrowsTest test = new NeverThrowsTest(seed);
        String thrown = "nothing";
        int n = 0;
        while (n < calls && thrown.equals("nothing")) {
            thrown = test.oneMore();
            n++;
        }
        Due.is("run " + seed + ", call " + n + ", " + test.call + ": thrown", thrown, "nothing");
    }

    private String oneMore() {
        try {
            ask(random.nextInt(16));
            return "nothing";
        } catch (RuntimeException e) {
            return e.toString();
        }
    }

    private int edge() {
        return EDGES[random.nextInt(EDGES.length)];
    }

    private long farEdge() {
        return random.nextInt(4) == 0 ? edge() * (1L << 32) + edge() : edge();
    }

    private void ask(int which) {
        int i = edge();
        long far = farEdge();
        call = "kind of call " + which + " with " + i + " and " + far;
        switch (which) {
            case 0 -> x.key(far, farEdge());
            case 1 -> x.key(0, 65535);
            case 2 -> x.octet(i, (byte) i);
            case 3 -> x.make(i, edge(), edge(), far);
            case 4, 5, 6 -> x.make(random.nextInt(15), 1 + random.nextInt(99999), random.nextInt(10), random.nextInt(65536));
            case 7 -> x.letter(i);
            case 8 -> x.type(i);
            case 9 -> checkLatest(i);
            case 10 -> x.check(far);
            case 11 -> x.first(i);
            case 12 -> x.refund(random.nextBoolean() ? far : random.nextInt(16384));
            case 13 -> digest(i);
            case 14 -> x.spent(far);
            default -> x.serial();
        }
    }

    private void checkLatest(int other) {
        for (int i = 0; i < 16; i++) x.type(random.nextInt(200) == 0 ? other : x.letter(i));
        x.check(random.nextInt(65536));
    }

    // The machine's own exception bears a text; the program's has none.
    private void digest(int i) {
        try {
            x.digest(i);
        } catch (ArrayIndexOutOfBoundsException e) {
            if (e.getMessage() != null) throw e;
        }
    }
}
