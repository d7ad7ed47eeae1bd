import java.lang.reflect.Constructor;
import java.lang.reflect.Field;
import java.lang.reflect.Method;
import java.lang.reflect.Modifier;
import java.util.HashSet;
import java.util.Set;
import java.util.TreeSet;

/** The public face is the document's, and the class shows nothing else. */
public final class FaceTest {
    private static final String[] FACE = {
        "public SealedRecords(int)",
        "public boolean SealedRecords.secret(int,long)",
        "public int SealedRecords.key(int,boolean)",
        "public boolean SealedRecords.advance(int)",
        "public boolean SealedRecords.write(int,int)",
        "public int SealedRecords.seal(int,int,int)",
        "public int SealedRecords.deliver(int)",
        "public boolean SealedRecords.alter(int,int,int,int)",
        "public boolean SealedRecords.cut(int,int)",
        "public boolean SealedRecords.lose(int,int)",
        "public boolean SealedRecords.copy(int,int)",
        "public boolean SealedRecords.swap(int,int)",
        "public boolean SealedRecords.inject(int,int,int,int)",
        "public int SealedRecords.waiting(int)",
        "public int SealedRecords.wire(int,int,int)",
        "public int SealedRecords.items(int)",
        "public int SealedRecords.item(int,int)",
        "public boolean SealedRecords.take(int)",
        "public int SealedRecords.look(int,int)",
        "public static final int SealedRecords.NONE",
        "public static final int SealedRecords.CLOSED",
        "public static final int SealedRecords.FULL",
        "public static final int SealedRecords.BAD",
        "public static final int SealedRecords.EXHAUSTED",
        "public static final int SealedRecords.IGNORED",
    };

    public static void main(String[] args) {
        Check check = new Check();
        Class<?> face = SealedRecords.class;
        Set<String> shown = new TreeSet<>();
        Set<String> publicNames = new HashSet<>();
        for (Constructor<?> c : face.getDeclaredConstructors()) {
            show(shown, c.getModifiers(), c.toString());
        }
        for (Field f : face.getDeclaredFields()) {
            show(shown, f.getModifiers(), f.toString());
        }
        for (Method m : face.getDeclaredMethods()) {
            show(shown, m.getModifiers(), m.toString());
            if (Modifier.isPublic(m.getModifiers())) {
                publicNames.add(m.getName());
            }
        }
        check.due("the face", shown.toString(), new TreeSet<>(Set.of(FACE)).toString());
        check.yes("the class is final", Modifier.isFinal(face.getModifiers()));
        for (Method m : face.getDeclaredMethods()) {
            boolean hidden = Modifier.isPrivate(m.getModifiers());
            check.no("a private method is named " + m.getName(), hidden && publicNames.contains(m.getName()));
        }
        for (Class<?> inside : face.getDeclaredClasses()) {
            check.yes(inside + " is static", Modifier.isStatic(inside.getModifiers()));
            for (Method m : inside.getDeclaredMethods()) {
                check.no("a method inside is named " + m.getName(), publicNames.contains(m.getName()));
            }
        }
        constants(check);
        check.finish();
    }

    private static void show(Set<String> shown, int modifiers, String text) {
        if (!Modifier.isPrivate(modifiers)) {
            shown.add(text);
        }
    }

    private static void constants(Check check) {
        check.due("NONE", SealedRecords.NONE, -1);
        check.due("CLOSED", SealedRecords.CLOSED, -2);
        check.due("FULL", SealedRecords.FULL, -3);
        check.due("BAD", SealedRecords.BAD, -4);
        check.due("EXHAUSTED", SealedRecords.EXHAUSTED, -5);
        check.due("IGNORED", SealedRecords.IGNORED, 100);
    }
}
