public final class Promise08FirstTest {
    private static final Stamp A = Stamp.LEAST.withDay(50).withSerial(0);
    private static final Stamp B = Stamp.LEAST.withDay(50).withSerial(1);
    private static final Stamp C = Stamp.LEAST.withDay(50).withSerial(2);

    public static void main(String[] args) {
        all();
        Due.end();
    }

    static void all() {
        Sentence.under("Promise 8: first");
        Sentence.test("that was accepted latest", "the second that was accepted, not the first",
            Promise08FirstTest::acceptedLatest);
        Sentence.test("that a check found spent (reason 6) latest", "an earlier one than was accepted latest",
            Promise08FirstTest::foundSpent);
        Sentence.test("that a check found spent (reason 6) latest", "by another stamp with its serial number",
            Promise08FirstTest::foundSpentByAnother);
        Sentence.test("whichever was later", "accepted, found spent, accepted, found spent",
            Promise08FirstTest::whicheverWasLater);
        Sentence.test("whichever was later", "a stamp refused for another reason, or given back, is neither",
            Promise08FirstTest::neither);
        Sentence.test("what = 0 its serial number", "0 and 16383", Promise08FirstTest::serialNumbers);
        Sentence.test("1 the day on which it was spent", "0 and 65535", Promise08FirstTest::days);
        Sentence.test("1 the day on which it was spent", "not the stamp's day, nor the one on which it was found spent",
            Promise08FirstTest::dayOfSpending);
        Sentence.test("2 which check (1 the first) that was", "the first one is 1", Promise08FirstTest::firstCheck);
        Sentence.test("2 which check (1 the first) that was", "the latest that an object's calls allow",
            Promise08FirstTest::latestCheck);
        Sentence.test("2 which check (1 the first) that was", "not the one that found it spent",
            Promise08FirstTest::checkOfSpending);
        Sentence.test("of all that were not OUTSIDE", "checks refused for each reason count, OUTSIDE ones do not",
            Promise08FirstTest::counted);
        Sentence.test("-1 when there is none such", "no check at all",
            () -> Due.is("what first tells", new Maker().told(), "-1 -1 -1"));
        Sentence.test("-1 when there is none such", "checks for all reasons but 6, and stamps made and given back",
            Promise08FirstTest::noneSuch);
        Sentence.test("OUTSIDE (looked at first) when what is none of these", "0 is inside, -1 outside", () -> edge(0, -1));
        Sentence.test("OUTSIDE (looked at first) when what is none of these", "2 is inside, 3 outside", () -> edge(2, 3));
        Sentence.test("OUTSIDE (looked at first) when what is none of these", "before -1 for none such",
            Promise08FirstTest::lookedAtFirst);
        Sentence.test("OUTSIDE (looked at first) when what is none of these", "far numbers", Promise08FirstTest::farNumbers);
    }

    private static void accepts(Maker x, Stamp stamp, int day) {
        Due.is("check of number " + stamp.serial(), x.check(stamp.letters(), day), 1);
    }

    private static void findsSpent(Maker x, Stamp stamp, int day) {
        Due.is("check of number " + stamp.serial() + " again", x.check(stamp.letters(), day), -7);
    }

    private static void tells(Maker x, int serial, int day, int check) {
        Due.is("what first tells", x.told(), serial + " " + day + " " + check);
    }

    private static void acceptedLatest() {
        Maker x = new Maker().keys(1);
        accepts(x, B, 60);
        tells(x, 1, 60, 1);
        accepts(x, A, 55);
        tells(x, 0, 55, 2);
    }

    private static void foundSpent() {
        Maker x = new Maker().keys(1);
        accepts(x, A, 60);
        accepts(x, B, 61);
        findsSpent(x, A, 62);
        tells(x, 0, 60, 1);
    }

    private static void foundSpentByAnother() {
        Maker x = new Maker().keys(2);
        accepts(x, A, 60);
        accepts(x, B, 61);
        findsSpent(x, A.withKey(1).withKind(9).withValue(99999).withDay(70), 70);
        tells(x, 0, 60, 1);
    }

    private static void whicheverWasLater() {
        Maker x = new Maker().keys(1);
        accepts(x, A, 60);
        findsSpent(x, A, 61);
        tells(x, 0, 60, 1);
        accepts(x, B, 62);
        tells(x, 1, 62, 3);
        findsSpent(x, A, 63);
        tells(x, 0, 60, 1);
        findsSpent(x, B, 64);
        tells(x, 1, 62, 3);
        accepts(x, C, 65);
        tells(x, 2, 65, 6);
    }

    private static void neither() {
        Maker x = new Maker().keys(1);
        for (int n = 0; n < 3; n++) x.make(A);
        accepts(x, B, 60);
        Due.is("check of one spent, on a wrong day", x.check(B.letters(), 151), -6);
        tells(x, 1, 60, 1);
        Due.is("check of another, on a wrong day", x.check(A.letters(), 49), -6);
        Due.is("check of another, with other bits", x.check(A.lettersUnsealed(), 60), -5);
        x.refund(2);
        tells(x, 1, 60, 1);
        Due.is("check of one given back", x.check(C.letters(), 60), -8);
        tells(x, 1, 60, 1);
        Due.is("refund of one spent", x.refund(1), 0);
        tells(x, 1, 60, 1);
    }

    private static void serialNumbers() {
        Maker x = new Maker().keys(1);
        accepts(x, A.withSerial(16383), 60);
        tells(x, 16383, 60, 1);
        accepts(x, A.withSerial(0), 60);
        tells(x, 0, 60, 2);
        findsSpent(x, A.withSerial(16383), 60);
        tells(x, 16383, 60, 1);
    }

    private static void days() {
        Maker x = new Maker().keys(1);
        accepts(x, A.withDay(0), 0);
        tells(x, 0, 0, 1);
        accepts(x, B.withDay(65535), 65535);
        tells(x, 1, 65535, 2);
        findsSpent(x, A.withDay(0), 100);
        tells(x, 0, 0, 1);
    }

    private static void dayOfSpending() {
        Maker x = new Maker().keys(1);
        accepts(x, A, 150);
        tells(x, 0, 150, 1);
        findsSpent(x, A, 50);
        tells(x, 0, 150, 1);
    }

    private static void firstCheck() {
        Maker x = new Maker().keys(1);
        accepts(x, A, 50);
        Due.is("first(2)", x.first(2), 1);
    }

    private static void latestCheck() {
        Maker x = new Maker().keys(1);
        while (x.left() > 18) x.check(0);
        accepts(x, A, 50);
        Due.is("first(2), the 512th call", x.first(2), 494);
        Due.is("calls left", x.left(), 0);
    }

    private static void checkOfSpending() {
        Maker x = new Maker().keys(1);
        x.check(0);
        accepts(x, A, 50);
        x.check(0);
        findsSpent(x, A, 50);
        tells(x, 0, 50, 2);
    }

    private static void counted() {
        Maker x = new Maker().keys(1);
        x.make(A);
        x.make(A);
        x.refund(1);
        accepts(x, A, 50);
        Due.is("reason 1", x.check(50), -2);
        Due.is("reason 2", x.check(C.lettersMisspelt(), 50), -3);
        Due.is("reason 3", x.check(C.withKind(10)), -4);
        Due.is("reason 4", x.check(C.lettersUnsealed(), 50), -5);
        Due.is("reason 5", x.check(C.letters(), 49), -6);
        Due.is("reason 6", x.check(A), -7);
        Due.is("reason 7", x.check(B), -8);
        Due.is("OUTSIDE", x.check(-1), StampMaker.OUTSIDE);
        Due.is("OUTSIDE with letters", x.check(C.letters(), 65536), StampMaker.OUTSIDE);
        Due.is("the same letters", x.check(50), 1);
        tells(x, 2, 50, 9);
    }

    private static void noneSuch() {
        Maker x = new Maker().keys(1);
        x.make(A);
        x.make(A);
        x.refund(1);
        x.check(50);
        x.check(A.lettersMisspelt(), 50);
        x.check(A.withKind(10));
        x.check(A.lettersUnsealed(), 50);
        x.check(A.letters(), 49);
        Due.is("reason 7", x.check(B), -8);
        x.check(A.letters(), -1);
        Due.is("what first tells", x.told(), "-1 -1 -1");
    }

    private static Maker withOneSpent() {
        Maker x = new Maker().keys(1);
        x.check(A.withSerial(7));
        return x;
    }

    private static void edge(int inside, int outside) {
        Maker x = withOneSpent();
        Due.is("first(" + inside + ")", x.first(inside), inside == 0 ? 7 : 1);
        Due.is("first(" + outside + ")", x.first(outside), StampMaker.OUTSIDE);
    }

    private static void lookedAtFirst() {
        Maker x = new Maker();
        Due.is("first(-1)", x.first(-1), StampMaker.OUTSIDE);
        Due.is("first(0)", x.first(0), -1);
        Due.is("first(2)", x.first(2), -1);
        Due.is("first(3)", x.first(3), StampMaker.OUTSIDE);
    }

    private static void farNumbers() {
        for (int what : new int[] {4, 5, -2, 256, 65536, 65537, Integer.MIN_VALUE, Integer.MIN_VALUE + 1, Integer.MAX_VALUE}) {
            Due.is("first(" + what + ")", withOneSpent().first(what), StampMaker.OUTSIDE);
            Due.is("first(" + what + ") when there is none", new Maker().first(what), StampMaker.OUTSIDE);
        }
    }
}
