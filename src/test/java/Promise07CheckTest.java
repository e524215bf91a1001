public final class Promise07CheckTest {
    private static final Stamp GOOD = Stamp.LEAST.withDay(150).withSerial(2);
    private static final Stamp SPENT = GOOD.withSerial(0);
    private static final Stamp GIVEN_BACK = GOOD.withSerial(1);

    public static void main(String[] args) {
        all();
        Due.end();
    }

    static void all() {
        Sentence.under("Promise 7: check");
        Sentence.test("What was typed is CHECKED on a day", "not what was made latest", Promise07CheckTest::typedNotMade);
        Sentence.test("and nothing is typed then", "behind each answer but OUTSIDE", Promise07CheckTest::nothingTypedThen);
        Sentence.test("1, or -1 less the reason", "each of the eight answers", Promise07CheckTest::answers);
        Sentence.test("day is not 0 .. 65535", "0 is inside, -1 outside", () -> {
            inside(0);
            outside(-1, -2);
        });
        Sentence.test("day is not 0 .. 65535", "65535 is inside, 65536 outside", () -> {
            inside(65535);
            outside(65536, 65537);
        });
        Sentence.test("day is not 0 .. 65535", "days that would be inside when cut to 32 or 16 bits, and the extremes", () ->
            outside((1L << 32) + 150, 1L << 32, -(1L << 32) + 150, 65536 + 150, -65536 + 150, Long.MIN_VALUE, Long.MAX_VALUE));
        Sentence.test("OUTSIDE", "before each of the reasons, and before acceptance", Promise07CheckTest::outsideBeforeReasons);
        Sentence.test("what was typed stays", "sixteen, then the same are checked", Promise07CheckTest::sixteenStay);
        Sentence.test("what was typed stays", "eight, and eight behind them", Promise07CheckTest::eightStay);
        Sentence.test("what was typed stays", "none, seventeen and forty", Promise07CheckTest::othersStay);
    }

    /** A key that holds from day 100 to day 300; serial number 0 is spent, 1 given back, 2 neither. */
    private static Maker ready() {
        Maker x = new Maker();
        x.key(100, 300);
        for (int n = 0; n < 3; n++) x.make(GOOD);
        x.check(SPENT);
        x.refund(1);
        return x;
    }

    /** Letters, and for each the reason (0: none) for which they are refused on day 150. */
    private static final String[] TYPED = {GOOD.letters(), "", GOOD.lettersMisspelt(), GOOD.withKind(10).letters(),
        GOOD.lettersUnsealed(), GOOD.withDay(151).letters(), SPENT.letters(), GIVEN_BACK.letters()};

    private static int answer(int reason) {
        return reason == 0 ? 1 : -1 - reason;
    }

    private static void typedNotMade() {
        Maker x = ready();
        x.make(GOOD);
        Due.is("check of what was not made latest", x.check(GOOD), 1);
        Due.is("spent of it", x.spent(2), 1);
        Due.is("spent of what was made latest", x.spent(3), 0);
        Due.is("check of nothing, behind a stamp made", x.check(150), -2);
    }

    private static void nothingTypedThen() {
        for (int reason = 0; reason < TYPED.length; reason++) {
            Maker x = ready();
            Due.is("check for reason " + reason, x.check(TYPED[reason], 150), answer(reason));
            Due.is("check of nothing behind it", x.check(150), -2);
            Due.is("check of sixteen letters behind it", x.check(GOOD.withSerial(5)), 1);
        }
        Maker x = ready();
        Due.is("check of seventeen", x.check("0".repeat(17), 150), -2);
        Due.is("check of sixteen letters behind it", x.check(GOOD), 1);
    }

    private static void answers() {
        int[] want = {1, -2, -3, -4, -5, -6, -7, -8};
        for (int reason = 0; reason < TYPED.length; reason++)
            Due.is("check for reason " + reason, ready().check(TYPED[reason], 150), want[reason]);
    }

    private static void inside(int day) {
        Maker x = new Maker().keys(1);
        Due.is("check(" + day + ")", x.check(Stamp.LEAST.withDay(day)), 1);
        Due.is("check(" + day + ") of nothing", x.check(day), -2);
    }

    private static void outside(long... days) {
        Maker x = ready();
        x.type(GOOD.letters());
        for (long day : days) Due.is("check(" + day + ")", x.check(day), StampMaker.OUTSIDE);
        Due.is("check(150) of what was typed", x.check(150), 1);
    }

    private static void outsideBeforeReasons() {
        for (int reason = 0; reason < TYPED.length; reason++) {
            for (long day : new long[] {-1, 65536}) {
                Maker x = ready();
                Due.is("check(" + day + ") in spite of reason " + reason, x.check(TYPED[reason], day), StampMaker.OUTSIDE);
                Due.is("check(150) for reason " + reason, x.check(150), answer(reason));
            }
        }
    }

    private static void sixteenStay() {
        Maker x = ready();
        Due.is("check(-1)", x.check(GOOD.letters(), -1), StampMaker.OUTSIDE);
        Due.is("check(65536)", x.check(65536), StampMaker.OUTSIDE);
        Due.is("check(150)", x.check(150), 1);
    }

    private static void eightStay() {
        Maker x = ready();
        Due.is("check(-1)", x.check(GOOD.letters().substring(0, 8), -1), StampMaker.OUTSIDE);
        Due.is("check(150)", x.check(GOOD.letters().substring(8), 150), 1);
    }

    private static void othersStay() {
        Maker x = ready();
        Due.is("check(-1) of nothing", x.check(-1), StampMaker.OUTSIDE);
        Due.is("check(150) of sixteen", x.check(GOOD), 1);
        for (int count : new int[] {17, 40}) {
            Due.is("check(-1) of " + count, x.check("0".repeat(count), -1), StampMaker.OUTSIDE);
            Due.is("check(150) of sixteen behind them", x.check(GOOD), -2);
        }
    }
}
