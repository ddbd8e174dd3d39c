import java.lang.reflect.Constructor;
import java.lang.reflect.Field;
import java.lang.reflect.Method;
import java.lang.reflect.Modifier;
import java.util.Arrays;
import java.util.Set;
import java.util.TreeSet;

/** The face of the class is the document's, and nothing else of it can be seen from outside. */
public final class FaceTest {
    private static final Set<String> DUE = new TreeSet<>(Arrays.asList(
            "public static final int NONE", "public BranchPacker()",
            "public boolean begin(int)", "public int arc(int,int)", "public boolean drop(int)",
            "public int plant(int)", "public int fell()", "public int count(int)", "public int end(int,int)",
            "public int entry(int)", "public int missed(int)", "public boolean packs()", "public int stopper()",
            "public int owner(int)", "public int way(int,int)", "public boolean spare(int)", "public int most(int)"));

    public static void main(String[] args) {
        Check.due("final", Modifier.isFinal(BranchPacker.class.getModifiers()), true);
        Check.due("NONE", BranchPacker.NONE, -1);
        Set<String> seen = new TreeSet<>();
        Set<String> hidden = new TreeSet<>();
        Set<String> open = new TreeSet<>();
        for (Method method : BranchPacker.class.getDeclaredMethods()) {
            boolean isPrivate = Modifier.isPrivate(method.getModifiers());
            (isPrivate ? hidden : open).add(method.getName());
            if (!isPrivate) {
                seen.add(plain(method.toString()));
            }
        }
        for (Constructor<?> constructor : BranchPacker.class.getDeclaredConstructors()) {
            seen.add(plain(constructor.toString()));
        }
        for (Field field : BranchPacker.class.getDeclaredFields()) {
            if (!Modifier.isPrivate(field.getModifiers())) {
                seen.add(plain(field.toString()));
            }
        }
        Check.due("the face is " + seen + ": as due", seen.equals(DUE), true);
        hidden.retainAll(open);
        Check.due("private methods with a public one's name " + hidden, hidden.size(), 0);
        for (Class<?> inside : BranchPacker.class.getDeclaredClasses()) {
            int modifiers = inside.getModifiers();
            Check.due(inside + " is static", Modifier.isStatic(modifiers), true);
            Check.due(inside + " can be seen", Modifier.isPublic(modifiers) || Modifier.isProtected(modifiers), false);
        }
        Check.finish();
    }

    private static String plain(String member) {
        return member.replace("BranchPacker.", "");
    }
}
