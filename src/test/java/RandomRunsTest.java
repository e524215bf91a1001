import java.util.ArrayList;
import java.util.List;
import java.util.Random;
import java.util.Set;
import java.util.TreeSet;

/** All promises: runs of up to 512 calls, the same ones each time, whose answers are those of the plain program. */
public final class RandomRunsTest {
    private static final int RUNS = 400;
    private static final int CALLS_OF_A_STEP = 48;
    private static final long[] FAR = {Long.MIN_VALUE, -65536, -1, 16383, 16384, 65535, 65536, 1L << 32, Long.MAX_VALUE};
    private static final Set<Long> CHECK_ANSWERS = new TreeSet<>();

    private final Random random;
    private final String name;
    private final Maker x = new Maker();
    private final PlainStamps plain = new PlainStamps();
    private final List<String> known = new ArrayList<>();

    private RandomRunsTest(int seed) {
        random = new Random(seed);
        name = "run " + seed + ", call ";
    }

    public static void main(String[] args) {
        for (int seed = 0; seed < RUNS; seed++) new RandomRunsTest(seed).run();
        Due.is("the answers of check that the runs met", CHECK_ANSWERS.toString(),
            new TreeSet<>(List.of(-22L, -8L, -7L, -6L, -5L, -4L, -3L, -2L, 1L)).toString());
        Due.end();
    }

    private void run() {
        int days = random.nextBoolean() ? 150 : 65536;
        for (int k = random.nextInt(4); k > 0; k--) openKey(days);
        while (x.left() >= CALLS_OF_A_STEP) step(days);
        while (x.left() > 0) spent();
    }

    private void step(int days) {
        switch (random.nextInt(16)) {
            case 0 -> openKey(days);
            case 1 -> octets();
            case 2, 3, 4 -> make(days);
            case 5, 6, 7, 8, 9 -> typeAndCheck(days);
            case 10 -> typeFew();
            case 11 -> refund();
            case 12 -> look();
            case 13 -> digests();
            default -> spent();
        }
    }

    private void is(String call, long got, long want) {
        Due.is(name + x.calls() + ": " + call, got, want);
    }

    private long day(int days) {
        return random.nextInt(12) == 0 ? FAR[random.nextInt(FAR.length)] : random.nextInt(days);
    }

    private int keyNumber() {
        return random.nextInt(12) == 0 ? random.nextInt(20) - 2 : random.nextInt(4);
    }

    private long serialNumber() {
        return random.nextInt(6) == 0 ? FAR[random.nextInt(FAR.length)] : random.nextInt((int) plain.serial() + 2);
    }

    private void openKey(int days) {
        long from = random.nextInt(3) == 0 ? day(days) : 0;
        long until = random.nextInt(3) == 0 ? day(days) : days - 1;
        is("key(" + from + ", " + until + ")", x.key(from, until), plain.key(from, until));
    }

    private void octets() {
        int key = keyNumber();
        for (int n = random.nextInt(5) == 0 ? 34 : 2; n > 0; n--) {
            byte b = (byte) random.nextInt(256);
            x.octet(key, b);
            plain.octet(key, b);
        }
    }

    private void make(int days) {
        int key = keyNumber();
        int value = random.nextInt(8) == 0 ? random.nextInt(3) * 50000 : 1 + random.nextInt(99999);
        int kind = random.nextInt(12) == 0 ? random.nextInt(14) - 2 : random.nextInt(10);
        long day = day(days);
        long want = plain.make(key, value, kind, day);
        is("make(" + key + ", " + value + ", " + kind + ", " + day + ")", x.make(key, value, kind, day), want);
        if (want == 16) known.add(plain.latest());
        int i = random.nextInt(18) - 1;
        is("letter(" + i + ")", x.letter(i), plain.letter(i));
    }

    private String someLetters(int days) {
        int choice = random.nextInt(10);
        if (choice == 0) return "0".repeat(random.nextInt(45));
        if (choice == 1 || known.isEmpty()) {
            int key = keyNumber() & 15;
            String forged = new Stamp(plain.bytesOf(key), key, random.nextInt(11), 1 + random.nextInt(100100),
                random.nextInt(days), random.nextInt((int) plain.serial() + 3)).letters();
            known.add(forged);
            return forged;
        }
        String letters = known.get(random.nextInt(known.size()));
        if (choice > 3) return letters;
        int place = random.nextInt(16);
        return choice == 2 ? altered(letters, place) : letters.substring(0, place) + "I" + letters.substring(place + 1);
    }

    private static String altered(String letters, int place) {
        char other = Stamp.ALPHABET.charAt((Stamp.ALPHABET.indexOf(letters.charAt(place)) + 1) % 32);
        return letters.substring(0, place) + other + letters.substring(place + 1);
    }

    private long checkDay(String letters, int days) {
        if (random.nextInt(4) == 0 || letters.length() != 16 || letters.contains("I")) return day(days);
        int[] behind = {0, 1, 50, 99, 100, 101, -1};
        return stampDay(letters) + behind[random.nextInt(random.nextInt(3) == 0 ? behind.length : 4)];
    }

    private static int stampDay(String letters) {
        StringBuilder bits = new StringBuilder();
        for (int i = 0; i < Stamp.SEAL; i++) {
            int worth = Stamp.ALPHABET.indexOf(letters.charAt(i));
            bits.append(Integer.toBinaryString(32 + worth).substring(1));
        }
        return Integer.parseInt(bits.substring(25, 41), 2);
    }

    private void typeAndCheck(int days) {
        String letters = someLetters(days);
        for (char c : letters.toCharArray()) type(c);
        long day = checkDay(letters, days);
        long want = plain.check(day);
        CHECK_ANSWERS.add(want);
        is("check(" + day + ") of " + letters, x.check(day), want);
    }

    private void type(int c) {
        x.type(c);
        plain.type(c);
    }

    private void typeFew() {
        if (random.nextInt(3) != 0) return;
        for (int n = random.nextInt(3); n > 0; n--) type(random.nextInt(5) == 0 ? 65536 + '0' : '0');
    }

    private void refund() {
        long serial = serialNumber();
        is("refund(" + serial + ")", x.refund(serial), plain.refund(serial));
    }

    private void look() {
        for (int what = -1; what <= 3; what++) is("first(" + what + ")", x.first(what), plain.first(what));
        is("serial()", x.serial(), plain.serial());
    }

    private void digests() {
        for (int n = 0; n < 3; n++) {
            int i = random.nextInt(34) - 1;
            if (plain.hasDigest(i)) {
                is("digest(" + i + ")", x.digest(i), plain.digest(i));
            } else {
                x.hasNoDigest(i);
            }
        }
    }

    private void spent() {
        long serial = serialNumber();
        is("spent(" + serial + ")", x.spent(serial), plain.spent(serial));
    }
}
