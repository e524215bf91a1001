import java.util.ArrayList;
import java.util.HashMap;
import java.util.HashSet;
import java.util.List;
import java.util.Map;
import java.util.Set;

/** The document once more, as plainly as the Java library lets it be said: the random runs compare the program with it. */
final class PlainStamps {
    private record PlainKey(long from, long until, List<Byte> bytes) {
        byte[] row() {
            byte[] row = new byte[bytes.size()];
            for (int i = 0; i < row.length; i++) row[i] = bytes.get(i);
            return row;
        }
    }

    private record Spending(long serial, long day, long check) {
    }

    private final List<PlainKey> keys = new ArrayList<>();
    private final Set<Integer> keysThatMade = new HashSet<>();
    private final Map<Long, Spending> spendings = new HashMap<>();
    private final Set<Long> givenBack = new HashSet<>();
    private final List<Integer> typed = new ArrayList<>();
    private String latest = "";
    private byte[] digest = new byte[0];
    private Spending told = null;
    private long made = 0;
    private long checks = 0;

    private static boolean within(long number, long least, long most) {
        return least <= number && number <= most;
    }

    long key(long from, long until) {
        if (!(0 <= from && from <= until && until <= 65535)) return -22;
        if (keys.size() == 15) return -24;
        keys.add(new PlainKey(from, until, new ArrayList<>()));
        return keys.size() - 1;
    }

    void octet(int key, byte b) {
        if (!within(key, 0, keys.size() - 1) || keysThatMade.contains(key)) return;
        if (keys.get(key).bytes.size() < 32) keys.get(key).bytes.add(b);
    }

    long make(int key, int value, int kind, long day) {
        if (!within(key, 0, keys.size() - 1)) return -21;
        if (!within(value, 1, 99999) || !within(kind, 0, 9) || !within(day, 0, 65535)) return -22;
        if (!within(day, keys.get(key).from, keys.get(key).until)) return -23;
        Stamp stamp = new Stamp(keys.get(key).row(), key, kind, value, (int) day, (int) made);
        latest = stamp.letters();
        digest = stamp.digest();
        keysThatMade.add(key);
        made++;
        return 16;
    }

    long letter(int i) {
        return within(i, 0, latest.length() - 1) ? latest.charAt(i) : 0;
    }

    void type(int c) {
        if (typed.size() < 40) typed.add(c);
    }

    long check(long day) {
        if (!within(day, 0, 65535)) return -22;
        checks++;
        List<Integer> was = new ArrayList<>(typed);
        typed.clear();
        if (was.size() != 16) return -2;
        StringBuilder letters = new StringBuilder();
        StringBuilder bits = new StringBuilder();
        for (int c : was) {
            int v = within(c, 1, 127) ? Stamp.ALPHABET.indexOf(c) : -1;
            if (v < 0) return -3;
            letters.append((char) c);
            bits.append(Integer.toBinaryString(32 + v).substring(1));
        }
        return checkFields(letters.toString(), bits.toString(), day);
    }

    private long checkFields(String letters, String bits, long day) {
        int key = Integer.parseInt(bits.substring(0, 4), 2);
        int kind = Integer.parseInt(bits.substring(4, 8), 2);
        int value = Integer.parseInt(bits.substring(8, 25), 2);
        int stampDay = Integer.parseInt(bits.substring(25, 41), 2);
        long serial = Integer.parseInt(bits.substring(41, 55), 2);
        if (key >= keys.size() || kind > 9 || !within(value, 1, 99999)) return -4;
        Stamp said = new Stamp(keys.get(key).row(), key, kind, value, stampDay, (int) serial);
        digest = said.digest();
        if (!letters.equals(said.letters())) return -5;
        if (!within(day, stampDay, stampDay + 100L) || !within(day, keys.get(key).from, keys.get(key).until)) return -6;
        if (givenBack.contains(serial)) return -8;
        boolean again = spendings.containsKey(serial);
        if (!again) spendings.put(serial, new Spending(serial, day, checks));
        told = spendings.get(serial);
        return again ? -7 : 1;
    }

    long first(int what) {
        if (!within(what, 0, 2)) return -22;
        if (told == null) return -1;
        return what == 0 ? told.serial : what == 1 ? told.day : told.check;
    }

    long refund(long serial) {
        if (!within(serial, 0, made - 1) || spent(serial) != 0) return 0;
        givenBack.add(serial);
        return 1;
    }

    boolean hasDigest(int i) {
        return within(i, 0, digest.length - 1);
    }

    byte digest(int i) {
        return digest[i];
    }

    long spent(long serial) {
        return spendings.containsKey(serial) ? 1 : givenBack.contains(serial) ? 2 : 0;
    }

    long serial() {
        return made;
    }

    String latest() {
        return latest;
    }

    byte[] bytesOf(int key) {
        return within(key, 0, keys.size() - 1) ? keys.get(key).row() : new byte[0];
    }
}
