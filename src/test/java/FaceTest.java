import java.lang.reflect.Constructor;
import java.lang.reflect.Field;
import java.lang.reflect.Method;
import java.lang.reflect.Modifier;
import java.util.Set;
import java.util.TreeSet;

/** The public face: what the document lists and no more. */
public final class FaceTest {
    private static final Due DUE = new Due();
    private static final String ARGUMENT = " throws java.lang.IllegalArgumentException";
    private static final String BOTH = ARGUMENT + ",java.lang.IndexOutOfBoundsException";

    public static void main(String[] args) {
        Set<String> want = new TreeSet<>();
        want.add("public int BitBus.send(int,int,boolean,int,long)" + BOTH);
        want.add("public void BitBus.filter(int,int,int)" + ARGUMENT);
        want.add("public void BitBus.wrong(int,int)" + ARGUMENT);
        want.add("public int BitBus.run(int)" + ARGUMENT);
        want.add("public long BitBus.levels()");
        want.add("public int BitBus.look(int,int)" + ARGUMENT);
        want.add("public int BitBus.got(int,int,int)" + BOTH);
        want.add("public long BitBus.bytes(int,int)" + BOTH);
        want.add("public int BitBus.take(int)" + BOTH);
        want.add("public int BitBus.check(long,int)" + ARGUMENT);
        want.add("public BitBus(int)");
        Set<String> have = new TreeSet<>();
        for (Method m : BitBus.class.getDeclaredMethods()) {
            addUnlessPrivate(have, m.getModifiers(), m.toString(), m.isSynthetic());
        }
        for (Constructor<?> c : BitBus.class.getDeclaredConstructors()) {
            addUnlessPrivate(have, c.getModifiers(), c.toString(), c.isSynthetic());
        }
        for (Field f : BitBus.class.getDeclaredFields()) {
            addUnlessPrivate(have, f.getModifiers(), f.toString(), f.isSynthetic());
            boolean loose = Modifier.isStatic(f.getModifiers()) && !Modifier.isFinal(f.getModifiers());
            DUE.equal(f + " is static and not final", loose ? 1 : 0, 0);
        }
        DUE.equal("face", have.toString(), want.toString());
        int modifiers = BitBus.class.getModifiers();
        DUE.equal("public and final", Modifier.isPublic(modifiers) && Modifier.isFinal(modifiers) ? 1 : 0, 1);
        DUE.end();
    }

    private static void addUnlessPrivate(Set<String> have, int modifiers, String text, boolean synthetic) {
        if (!Modifier.isPrivate(modifiers) && !synthetic) {
            have.add(text);
        }
    }
}
