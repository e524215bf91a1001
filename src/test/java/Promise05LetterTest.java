public final class Promise05LetterTest {
    public static void main(String[] args) {
        all();
        Due.end();
    }

    static void all() {
        Sentence.under("Promise 5: letter");
        Sentence.test("Letter i", "0 is the first inside, -1 outside", () -> edge(0, -1));
        Sentence.test("Letter i", "15 is the last inside, 16 outside", () -> edge(15, 16));
        Sentence.test("Letter i", "all sixteen", Promise05LetterTest::sixteen);
        Sentence.test("made latest", "the second stamp's, not the first's", Promise05LetterTest::second);
        Sentence.test("made latest", "not those of a stamp that was checked or typed", Promise05LetterTest::behindChecks);
        Sentence.test("made latest", "also when it was spent, or given back", Promise05LetterTest::behindItsEnd);
        Sentence.test("made latest", "a refused make made none", Promise05LetterTest::behindRefusals);
        Sentence.test("as a character", "the character's own number, for digits and for letters",
            Promise05LetterTest::characters);
        Sentence.test("0 when there is none", "no stamp was made", Promise05LetterTest::noStamp);
        Sentence.test("0 when there is none", "the stamp has no such letter", Promise05LetterTest::noSuchLetter);
    }

    private static final Stamp GREATEST = new Stamp(new byte[0], 0, 9, 99999, 65535, 0);

    private static Maker ready() {
        Maker x = new Maker().keys(1);
        x.make(GREATEST);
        return x;
    }

    private static void edge(int inside, int outside) {
        Maker x = ready();
        Due.is("letter(" + inside + ")", x.letter(inside), GREATEST.letters().charAt(inside));
        Due.is("letter(" + outside + ")", x.letter(outside), 0);
    }

    private static void sixteen() {
        Maker x = ready();
        for (int i = 0; i < 16; i++) Due.is("letter(" + i + ")", x.letter(i), GREATEST.letters().charAt(i));
    }

    private static void second() {
        Maker x = ready();
        x.make(0, 1, 0, 0);
        Due.is("the letters", x.letters(), Stamp.LEAST.withSerial(1).letters());
    }

    private static void behindChecks() {
        Maker x = ready();
        Due.is("check of another stamp", x.check(Stamp.LEAST.withSerial(7)), 1);
        x.type(Stamp.LEAST.letters());
        Due.is("the letters", x.letters(), GREATEST.letters());
    }

    private static void behindItsEnd() {
        Maker x = ready();
        Due.is("check of it", x.check(GREATEST), 1);
        Due.is("the letters when it is spent", x.letters(), GREATEST.letters());
        x = ready();
        Due.is("refund of it", x.refund(0), 1);
        Due.is("the letters when it is given back", x.letters(), GREATEST.letters());
    }

    private static void behindRefusals() {
        Maker x = ready();
        x.make(1, 1, 0, 0);
        x.make(0, 1, 10, 0);
        Due.is("the letters", x.letters(), GREATEST.letters());
        x = new Maker().keys(1);
        x.make(0, 0, 0, 0);
        Due.is("letter(0) behind a refused make alone", x.letter(0), 0);
    }

    private static void characters() {
        Maker x = new Maker().keys(1);
        x.make(0, 1, 0, 10 << 11);
        Due.is("a digit", x.letter(0), 48);
        Due.is("a letter", x.letter(5), 65);
    }

    private static void noStamp() {
        Maker x = new Maker().keys(1);
        for (int i : new int[] {-1, 0, 15, 16}) Due.is("letter(" + i + ")", x.letter(i), 0);
        Due.is("check of a stamp that nobody made", x.check(Stamp.LEAST), 1);
        for (int i : new int[] {-1, 0, 15, 16}) Due.is("letter(" + i + ") behind a check", x.letter(i), 0);
    }

    private static void noSuchLetter() {
        Maker x = ready();
        for (int i : new int[] {-1, 16, 17, 32, -16, 256, 65536, Integer.MIN_VALUE, Integer.MAX_VALUE})
            Due.is("letter(" + i + ")", x.letter(i), 0);
    }
}
