/** Promise 5: the letters are those of the stamp that was made latest. */
public final class LetterTest {
    public static void main(String[] args) {
        StampMaker x = new StampMaker();
        x.key(0, 65535);
        Due.is("letter(0) before the first stamp", x.letter(0), 0);
        x.make(0, 0, 0, 0);
        Due.is("letter(0) behind a refused stamp", x.letter(0), 0);
        x.make(0, 99999, 9, 65535);
        String first = Stamps.letters(Stamps.bytes(), 0, 9, 99999, 65535, 0);
        for (int i = 0; i < 16; i++) Due.is("letter(" + i + ")", x.letter(i), first.charAt(i));
        for (int i : new int[] {-1, 16, 17, 40, Integer.MIN_VALUE, Integer.MAX_VALUE}) Due.is("letter(" + i + ")", x.letter(i), 0);
        x.make(0, 1, 0, 0);
        String second = Stamps.letters(Stamps.bytes(), 0, 0, 1, 0, 1);
        for (int i = 0; i < 16; i++) Due.is("letter(" + i + ") of the second", x.letter(i), second.charAt(i));
        Due.is("check of the first", Stamps.check(x, first, 65535), 1);
        Due.is("the letters behind a check", Stamps.latest(x), second);
        x.refund(1);
        Due.is("the letters of a stamp given back", Stamps.latest(x), second);
        everyLetter();
        Due.end();
    }

    private static void everyLetter() {
        StampMaker x = new StampMaker();
        x.key(0, 65535);
        StringBuilder seen = new StringBuilder();
        for (int day = 0; day < 32; day++) {
            x.make(0, 1, 0, day << 5);
            Due.is("letters on day " + (day << 5), Stamps.latest(x), Stamps.letters(Stamps.bytes(), 0, 0, 1, day << 5, day));
            for (int i = 0; i < 16; i++) seen.append((char) x.letter(i));
        }
        for (char c : Stamps.ALPHABET.toCharArray()) Due.is("seen " + c, seen.indexOf(String.valueOf(c)) >= 0 ? 1 : 0, 1);
        for (char c : "IOYZ".toCharArray()) Due.is("seen " + c, seen.indexOf(String.valueOf(c)) >= 0 ? 1 : 0, 0);
    }
}
