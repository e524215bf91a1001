/** Promise 1: a new object has no keys and no stamps. */
public final class NewObjectTest {
    public static void main(String[] args) {
        StampMaker x = new StampMaker();
        for (int k = -1; k <= 15; k++) Due.is("make(" + k + ", 1, 0, 0)", x.make(k, 1, 0, 0), StampMaker.UNKNOWN);
        for (int i = -1; i <= 16; i++) Due.is("letter(" + i + ")", x.letter(i), 0);
        for (int i = -1; i <= 32; i++) Due.noDigest(x, i);
        for (int what = 0; what <= 2; what++) Due.is("first(" + what + ")", x.first(what), -1);
        Due.is("spent(0)", x.spent(0), 0);
        Due.is("refund(0)", x.refund(0), 0);
        Due.is("serial()", x.serial(), 0);
        Due.is("check(0)", x.check(0), -2);

        StampMaker used = new StampMaker();
        used.key(0, 9);
        used.make(0, 1, 0, 0);
        Due.is("check of the first object's stamp", Stamps.check(used, Stamps.latest(used), 0), 1);
        StampMaker other = new StampMaker();
        Due.is("serial() of another object", other.serial(), 0);
        Due.is("letter(0) of another object", other.letter(0), 0);
        Due.is("spent(0) of another object", other.spent(0), 0);
        Due.is("first(0) of another object", other.first(0), -1);
        Due.is("key(0, 0) of another object", other.key(0, 0), 0);
        Due.noDigest(other, 0);
        Due.end();
    }
}
