import java.lang.reflect.Constructor;
import java.lang.reflect.Field;
import java.lang.reflect.Member;
import java.lang.reflect.Method;
import java.lang.reflect.Modifier;
import java.util.Arrays;
import java.util.Set;
import java.util.TreeSet;

/** The class shows the document's face and nothing else. */
public final class FaceTest {
    private static final Set<String> FACE = new TreeSet<>(Arrays.asList(
        "public static final int AsmDesk.NONE",
        "public AsmDesk()",
        "public boolean AsmDesk.type(long,int)",
        "public int AsmDesk.assemble() throws java.lang.IllegalArgumentException",
        "public int AsmDesk.fault(int)",
        "public int AsmDesk.word(int) throws java.lang.IndexOutOfBoundsException",
        "public int AsmDesk.start(int) throws java.lang.IndexOutOfBoundsException",
        "public int AsmDesk.labels()",
        "public int AsmDesk.label(long) throws java.util.NoSuchElementException",
        "public int AsmDesk.told()"));

    public static void main(String[] args) {
        Set<String> shown = new TreeSet<>();
        for (Constructor<?> c : AsmDesk.class.getDeclaredConstructors()) {
            addShown(shown, c, c.toString());
        }
        for (Method m : AsmDesk.class.getDeclaredMethods()) {
            addShown(shown, m, m.toString());
        }
        for (Field f : AsmDesk.class.getDeclaredFields()) {
            addShown(shown, f, f.toString());
        }
        int modifiers = AsmDesk.class.getModifiers();
        boolean right = shown.equals(FACE) && Modifier.isPublic(modifiers) && Modifier.isFinal(modifiers);
        System.out.println(right ? "the face is right" : "the face is " + shown + ", due is " + FACE);
        if (!right) {
            System.exit(1);
        }
    }

    private static void addShown(Set<String> shown, Member member, String text) {
        if (!Modifier.isPrivate(member.getModifiers()) && !member.isSynthetic()) {
            shown.add(text);
        }
    }
}
