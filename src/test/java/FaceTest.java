import java.lang.reflect.Constructor;
import java.lang.reflect.Field;
import java.lang.reflect.Member;
import java.lang.reflect.Method;
import java.lang.reflect.Modifier;
import java.util.Arrays;
import java.util.TreeSet;

/** The public face is the document's, and nothing else can be seen from outside. */
public final class FaceTest {
    public static void main(String[] args) {
        Due.is("UNKNOWN", StampMaker.UNKNOWN, -21);
        Due.is("OUTSIDE", StampMaker.OUTSIDE, -22);
        Due.is("STATE", StampMaker.STATE, -23);
        Due.is("ROOM", StampMaker.ROOM, -24);

        TreeSet<String> seen = new TreeSet<>();
        for (Method m : StampMaker.class.getDeclaredMethods()) if (isOpen(m)) seen.add(m.toString());
        for (Field f : StampMaker.class.getDeclaredFields()) if (isOpen(f)) seen.add(f.toString());
        for (Constructor<?> c : StampMaker.class.getDeclaredConstructors()) if (isOpen(c)) seen.add(c.toString());
        Due.is("the face", String.join("\n", seen), String.join("\n", new TreeSet<>(Arrays.asList(
            "public static final int StampMaker.UNKNOWN",
            "public static final int StampMaker.OUTSIDE",
            "public static final int StampMaker.STATE",
            "public static final int StampMaker.ROOM",
            "public StampMaker()",
            "public int StampMaker.key(long,long)",
            "public void StampMaker.octet(int,byte)",
            "public int StampMaker.make(int,int,int,long)",
            "public int StampMaker.letter(int)",
            "public void StampMaker.type(int)",
            "public int StampMaker.check(long)",
            "public int StampMaker.first(int)",
            "public int StampMaker.refund(long)",
            "public byte StampMaker.digest(int) throws java.lang.ArrayIndexOutOfBoundsException",
            "public int StampMaker.spent(long)",
            "public long StampMaker.serial()"))));
        Due.is("final", Modifier.isFinal(StampMaker.class.getModifiers()) ? 1 : 0, 1);
        Due.end();
    }

    private static boolean isOpen(Member m) {
        return !Modifier.isPrivate(m.getModifiers()) && !m.isSynthetic();
    }
}
