import java.lang.reflect.Constructor;
import java.lang.reflect.Field;
import java.lang.reflect.Method;
import java.lang.reflect.Modifier;
import java.util.Arrays;
import java.util.Set;
import java.util.TreeSet;

/** The class shows the document's face and nothing else. */
public final class FaceTest {
    private static final Set<String> FACE = Set.of(
            "public static final int BAD", "public static final int NONE", "public BlockSound()",
            "public boolean settings(int,int)", "public int sample(int)", "public int write()",
            "public int at(int)", "public int block(int,int)", "public int cost(int,int,int)",
            "public boolean feed(int)", "public int take()", "public int read()",
            "public int value(int)", "public boolean same()", "public int count(int)");

    public static void main(String[] args) {
        Check check = new Check("FaceTest");
        Set<String> seen = new TreeSet<>();
        Set<String> hidden = new TreeSet<>();
        for (Field f : BlockSound.class.getDeclaredFields()) {
            sort(f.getModifiers(), f.toString(), f.getName(), seen, hidden);
            if (Modifier.isStatic(f.getModifiers())) {
                check.due(f + " is final", Modifier.isFinal(f.getModifiers()), true);
            }
        }
        for (Constructor<?> c : BlockSound.class.getDeclaredConstructors()) {
            sort(c.getModifiers(), c.toString(), c.getName(), seen, hidden);
        }
        for (Method m : BlockSound.class.getDeclaredMethods()) {
            sort(m.getModifiers(), m.toString(), m.getName(), seen, hidden);
        }
        if (!seen.equals(FACE)) {
            System.out.println("seen: " + seen);
        }
        check.due("the face is the document's", seen.equals(FACE), true);
        for (Method m : BlockSound.class.getMethods()) {
            check.due("a hidden member is named " + m.getName(), hidden.contains(m.getName()), false);
        }
        check.due("the class is public and final",
                BlockSound.class.getModifiers(), Modifier.PUBLIC | Modifier.FINAL);
        classesInside(check);
        check.end();
    }

    private static void sort(int modifiers, String whole, String name, Set<String> seen, Set<String> hidden) {
        if (Modifier.isPrivate(modifiers)) {
            hidden.add(name);
        } else {
            seen.add(whole.replace("BlockSound.", ""));
        }
    }

    private static void classesInside(Check check) {
        Set<String> face = new TreeSet<>();
        for (Method m : BlockSound.class.getDeclaredMethods()) {
            if (Modifier.isPublic(m.getModifiers())) {
                face.add(m.getName());
            }
        }
        Class<?>[] inside = BlockSound.class.getDeclaredClasses();
        check.due("at most some twelve classes", inside.length <= 11, true);
        for (Class<?> c : inside) {
            check.due(c + " is static", Modifier.isStatic(c.getModifiers()), true);
            check.due(c + " is not public", Modifier.isPublic(c.getModifiers()), false);
            check.due(c + " bears no name of the face",
                    Arrays.stream(c.getDeclaredMethods()).anyMatch(m -> face.contains(m.getName())), false);
        }
    }
}
