/** A StampMaker whose calls are counted: the document promises nothing behind the 512th, so no test may ask more. */
final class Maker {
    static final int CALLS = 512;

    private final StampMaker inner = new StampMaker();
    private int calls = 0;

    private StampMaker counted() {
        if (calls >= CALLS) throw new IllegalStateException("a test that asks more than 512 calls of one object");
        calls++;
        return inner;
    }

    int calls() {
        return calls;
    }

    int left() {
        return CALLS - calls;
    }

    int key(long from, long until) {
        return counted().key(from, until);
    }

    void octet(int key, byte b) {
        counted().octet(key, b);
    }

    int make(int key, int value, int kind, long day) {
        return counted().make(key, value, kind, day);
    }

    int letter(int i) {
        return counted().letter(i);
    }

    void type(int c) {
        counted().type(c);
    }

    int check(long day) {
        return counted().check(day);
    }

    int first(int what) {
        return counted().first(what);
    }

    int refund(long serial) {
        return counted().refund(serial);
    }

    byte digest(int i) {
        return counted().digest(i);
    }

    int spent(long serial) {
        return counted().spent(serial);
    }

    long serial() {
        return counted().serial();
    }

    /** Opens keys that hold on all days. */
    Maker keys(int count) {
        for (int k = 0; k < count; k++) key(0, 65535);
        return this;
    }

    void octets(int key, byte... bytes) {
        for (byte b : bytes) octet(key, b);
    }

    int make(Stamp stamp) {
        return make(stamp.key(), stamp.value(), stamp.kind(), stamp.day());
    }

    void type(String letters) {
        for (int i = 0; i < letters.length(); i++) type(letters.charAt(i));
    }

    int check(String letters, long day) {
        type(letters);
        return check(day);
    }

    int check(Stamp stamp) {
        return check(stamp.letters(), stamp.day());
    }

    /** The letters of the stamp that was made latest. */
    String letters() {
        StringBuilder letters = new StringBuilder();
        for (int i = 0; i < 16; i++) letters.append((char) letter(i));
        return letters.toString();
    }

    /** The digest that was reckoned latest, or "none". */
    String digestText() {
        byte[] digest = new byte[32];
        try {
            for (int i = 0; i < 32; i++) digest[i] = digest(i);
        } catch (ArrayIndexOutOfBoundsException e) {
            return "none";
        }
        return Stamp.hex(digest);
    }

    /** What first tells: serial number, day and check. */
    String told() {
        return first(0) + " " + first(1) + " " + first(2);
    }

    /** digest(i) must throw just the exception that the document names, and by a throw statement, not by the machine. */
    void hasNoDigest(int i) {
        String thrown = "nothing";
        try {
            digest(i);
        } catch (RuntimeException e) {
            thrown = e.getClass().getName() + " with the text " + e.getMessage();
        }
        Due.is("digest(" + i + ") throws", thrown, "java.lang.ArrayIndexOutOfBoundsException with the text null");
    }
}
