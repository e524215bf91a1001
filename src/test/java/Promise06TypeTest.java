public final class Promise06TypeTest {
    private static final String GOOD = Stamp.LEAST.letters();

    public static void main(String[] args) {
        all();
        Due.end();
    }

    static void all() {
        Sentence.under("Promise 6: type");
        Sentence.test("A character is typed", "behind those that are typed", Promise06TypeTest::inOrder);
        Sentence.test("A character is typed", "any number is one, also such as are no letters", Promise06TypeTest::anyNumber);
        Sentence.test("A character is typed", "calls between the characters do not matter", Promise06TypeTest::betweenCalls);
        Sentence.test("not when 40 are", "39, 40 and 41 are not sixteen, and are gone behind the check", () -> {
            for (int count : new int[] {39, 40, 41, 42}) typedThenGone("0".repeat(count));
        });
        Sentence.test("not when 40 are", "a stamp's letters typed behind forty are not what is checked", () ->
            typedThenGone("0".repeat(40) + GOOD));
        Sentence.test("not when 40 are", "nor those before them, at their end, or twice and a half", () -> {
            typedThenGone(GOOD + "0".repeat(40));
            typedThenGone("0".repeat(24) + GOOD);
            typedThenGone(GOOD + GOOD + GOOD.substring(0, 8));
        });
        Sentence.test("not when 40 are", "as many as an object's calls allow", () -> typedThenGone("0".repeat(493)));
        Sentence.test("not when 40 are", "forty may be typed again behind a check", Promise06TypeTest::fortyAgain);
    }

    private static void typedThenGone(String letters) {
        Maker x = new Maker().keys(1);
        Due.is("check of " + letters.length() + " characters", x.check(letters, 0), -2);
        Due.is("check of a stamp behind them", x.check(GOOD, 0), 1);
    }

    private static void inOrder() {
        Maker x = new Maker().keys(1);
        Due.is("backwards", x.check(new StringBuilder(GOOD).reverse().toString(), 0) == 1 ? 1 : 0, 0);
        Due.is("the last letter first", x.check(GOOD.charAt(15) + GOOD.substring(0, 15), 0) == 1 ? 1 : 0, 0);
        Due.is("in order", x.check(GOOD, 0), 1);
    }

    private static void anyNumber() {
        for (int c : new int[] {-1, 0, 1, 127, 128, 255, 256, 65535, 65536, Integer.MIN_VALUE, Integer.MAX_VALUE}) {
            Maker x = new Maker().keys(1);
            x.type(GOOD.substring(0, 15));
            x.type(c);
            Due.is("check of sixteen with " + c, x.check(0), -3);
            x.type(GOOD);
            x.type(c);
            Due.is("check of seventeen with " + c, x.check(0), -2);
        }
    }

    private static void betweenCalls() {
        Maker x = new Maker().keys(1);
        x.type(GOOD.substring(0, 8));
        x.make(0, 2, 0, 5);
        x.make(0, 0, 0, 5);
        x.refund(0);
        x.refund(0);
        x.key(0, 3);
        x.octet(1, (byte) 3);
        x.letter(0);
        x.spent(0);
        x.first(0);
        x.first(-1);
        x.serial();
        x.digest(0);
        x.hasNoDigest(32);
        x.check(-1);
        x.type(GOOD.substring(8));
        Due.is("check of one given back", x.check(0), -8);
    }

    private static void fortyAgain() {
        Maker x = new Maker().keys(1);
        for (int n = 0; n < 9; n++) Due.is("check of forty", x.check("0".repeat(40), 0), -2);
        Due.is("check of a stamp", x.check(GOOD, 0), 1);
    }
}
