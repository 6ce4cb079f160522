import java.lang.reflect.Constructor;
import java.lang.reflect.Field;
import java.lang.reflect.Method;
import java.lang.reflect.Modifier;
import java.util.Arrays;
import java.util.List;
import java.util.TreeSet;

/** The public face is that of the document, and there is no other member that can be seen. */
public final class FaceTest {
    private static final List<String> FACE = List.of(
            "public MarkRecovery(int,int)",
            "public int MarkRecovery.feed(long,int) throws"
                    + " java.lang.IllegalArgumentException,java.lang.UnsupportedOperationException",
            "public int MarkRecovery.alter(int,int) throws"
                    + " java.lang.IndexOutOfBoundsException,java.lang.IllegalArgumentException",
            "public int MarkRecovery.run()",
            "public int MarkRecovery.part(int,int) throws"
                    + " java.lang.IllegalStateException,java.lang.IndexOutOfBoundsException",
            "public int MarkRecovery.decode(int) throws"
                    + " java.lang.IllegalStateException,java.lang.IndexOutOfBoundsException",
            "public int MarkRecovery.decodeAll() throws java.lang.IllegalStateException",
            "public int MarkRecovery.at(int) throws java.lang.IndexOutOfBoundsException",
            "public int MarkRecovery.state(int) throws java.lang.IndexOutOfBoundsException",
            "public int MarkRecovery.fill(int) throws java.lang.IllegalArgumentException",
            "public int MarkRecovery.told(int)",
            "public void MarkRecovery.clear()",
            "public static final int MarkRecovery.NONE");

    public static void main(String[] args) {
        Check check = new Check();
        TreeSet<String> seen = new TreeSet<>();
        TreeSet<String> publicNames = new TreeSet<>();
        for (Constructor<?> made : MarkRecovery.class.getDeclaredConstructors()) {
            add(seen, made.getModifiers(), made.toGenericString());
        }
        for (Method method : MarkRecovery.class.getDeclaredMethods()) {
            add(seen, method.getModifiers(), method.toGenericString());
            if (Modifier.isPublic(method.getModifiers())) {
                publicNames.add(method.getName());
            }
        }
        for (Field field : MarkRecovery.class.getDeclaredFields()) {
            add(seen, field.getModifiers(), field.toGenericString());
        }
        check.due("members that are not the document's: " + seen, 0,
                () -> seen.stream().filter(member -> !FACE.contains(member)).count());
        check.due("members that the document has: " + seen, FACE.size(), seen::size);
        check.due("NONE", -1, () -> MarkRecovery.NONE);
        check.due("the class is public and final", Modifier.PUBLIC | Modifier.FINAL,
                () -> MarkRecovery.class.getModifiers());
        check.due("private methods with a public one's name", 0, () -> privateTwins(publicNames));
        check.end();
    }

    private static void add(TreeSet<String> seen, int modifiers, String member) {
        if (!Modifier.isPrivate(modifiers)) {
            seen.add(member);
        }
    }

    private static long privateTwins(TreeSet<String> publicNames) {
        long inside = 0;
        for (Class<?> nested : MarkRecovery.class.getDeclaredClasses()) {
            inside += Arrays.stream(nested.getDeclaredMethods())
                    .filter(method -> publicNames.contains(method.getName())).count();
        }
        return inside + Arrays.stream(MarkRecovery.class.getDeclaredMethods())
                .filter(method -> Modifier.isPrivate(method.getModifiers()))
                .filter(method -> publicNames.contains(method.getName())).count();
    }
}
