import java.lang.reflect.Constructor;
import java.lang.reflect.Field;
import java.lang.reflect.Method;
import java.lang.reflect.Modifier;
import java.util.ArrayList;
import java.util.List;
import java.util.Set;
import java.util.TreeSet;

/** The public face: what the document lists and no more, and what LANGUAGE.md says of the classes inside. */
public final class FaceTest {
    private static final Due DUE = new Due();
    private static final String ARGUMENT = " throws java.lang.IllegalArgumentException";
    private static final String BOTH = ARGUMENT + ",java.lang.IndexOutOfBoundsException";

    public static void main(String[] args) {
        DUE.hold("public final class BitBus", FaceTest::isPublicAndFinal);
        DUE.hold("the public constructor and methods of the document and no other member", FaceTest::hasTheFace);
        DUE.hold("the classes inside are private or package-visible and static", FaceTest::classesInside);
        DUE.hold("No private method bears the name of a public one", FaceTest::privateNames);
        DUE.hold("Static fields are final", FaceTest::staticFields);
        DUE.hold("a class has some twenty fields beside its constants, the file some twelve classes", FaceTest::sizes);
        DUE.end();
    }

    private static void isPublicAndFinal() {
        DUE.yes("public", Modifier.isPublic(BitBus.class.getModifiers()));
        DUE.yes("final", Modifier.isFinal(BitBus.class.getModifiers()));
        DUE.equal("no package", BitBus.class.getName(), "BitBus");
    }

    private static void hasTheFace() {
        Set<String> want = new TreeSet<>();
        want.add("public int BitBus.send(int,int,boolean,int,long)" + BOTH);
        want.add("public void BitBus.filter(int,int,int)" + ARGUMENT);
        want.add("public void BitBus.wrong(int,int)" + ARGUMENT);
        want.add("public int BitBus.run(int)" + ARGUMENT);
        want.add("public long BitBus.levels()");
        want.add("public int BitBus.look(int,int)" + ARGUMENT);
        want.add("public int BitBus.got(int,int,int)" + BOTH);
        want.add("public long BitBus.bytes(int,int)" + BOTH);
        want.add("public int BitBus.take(int)" + BOTH);
        want.add("public int BitBus.check(long,int)" + ARGUMENT);
        want.add("public BitBus(int)");
        Set<String> have = new TreeSet<>();
        for (Method m : BitBus.class.getDeclaredMethods()) {
            addUnlessPrivate(have, m.getModifiers(), m.toString(), m.isSynthetic());
        }
        for (Constructor<?> c : BitBus.class.getDeclaredConstructors()) {
            addUnlessPrivate(have, c.getModifiers(), c.toString(), c.isSynthetic());
        }
        for (Field f : BitBus.class.getDeclaredFields()) {
            addUnlessPrivate(have, f.getModifiers(), f.toString(), f.isSynthetic());
        }
        DUE.equal("face", have.toString(), want.toString());
    }

    private static void addUnlessPrivate(Set<String> have, int modifiers, String text, boolean synthetic) {
        if (!Modifier.isPrivate(modifiers) && !synthetic) {
            have.add(text);
        }
    }

    private static void classesInside() {
        for (Class<?> inside : BitBus.class.getDeclaredClasses()) {
            int modifiers = inside.getModifiers();
            DUE.yes(inside + " is static", Modifier.isStatic(modifiers));
            DUE.yes(inside + " is not public", !Modifier.isPublic(modifiers) && !Modifier.isProtected(modifiers));
        }
    }

    private static List<Class<?>> allClasses() {
        List<Class<?>> all = new ArrayList<>(List.of(BitBus.class.getDeclaredClasses()));
        all.add(BitBus.class);
        return all;
    }

    private static void privateNames() {
        Set<String> names = new TreeSet<>();
        for (Method m : BitBus.class.getDeclaredMethods()) {
            if (Modifier.isPublic(m.getModifiers())) {
                names.add(m.getName());
            }
        }
        for (Class<?> c : allClasses()) {
            for (Method m : c.getDeclaredMethods()) {
                boolean ofTheFace = c == BitBus.class && Modifier.isPublic(m.getModifiers());
                DUE.yes(m + " has a name of its own", ofTheFace || !names.contains(m.getName()));
            }
        }
    }

    private static void staticFields() {
        for (Class<?> c : allClasses()) {
            for (Field f : c.getDeclaredFields()) {
                int modifiers = f.getModifiers();
                DUE.yes(f + " is final", !Modifier.isStatic(modifiers) || Modifier.isFinal(modifiers));
            }
        }
    }

    private static void sizes() {
        List<Class<?>> all = allClasses();
        DUE.yes("classes", all.size() <= 12);
        for (Class<?> c : all) {
            int fields = 0;
            for (Field f : c.getDeclaredFields()) {
                fields += Modifier.isStatic(f.getModifiers()) ? 0 : 1;
            }
            DUE.yes("fields of " + c, fields <= 20);
        }
    }
}
