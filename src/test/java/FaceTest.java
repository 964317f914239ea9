import java.lang.reflect.Constructor;
import java.lang.reflect.Executable;
import java.lang.reflect.Field;
import java.lang.reflect.Member;
import java.lang.reflect.Method;
import java.lang.reflect.Modifier;
import java.util.Set;
import java.util.TreeSet;

/** The face is the document's, to the letter, and every other member is private. */
public final class FaceTest {
    private static final String ARGUMENT = "IllegalArgumentException ";
    private static final String STATE = "IllegalStateException ";
    private static final String NONE_THERE = "NoSuchElementException ";
    private static final String POWER = "UnsupportedOperationException ";

    private static final Set<String> FACE = Set.of(
            "SnapshotVolume() throws ",
            "void format() throws ",
            "int write(int int int ) throws " + ARGUMENT + STATE + POWER,
            "int read(int int ) throws " + ARGUMENT + POWER,
            "int snapshot() throws " + STATE + POWER,
            "void drop(int ) throws " + NONE_THERE + POWER,
            "int readSnapshot(int int int ) throws " + NONE_THERE + ARGUMENT + POWER,
            "boolean writeSnapshot(int int int int ) throws " + NONE_THERE + ARGUMENT + STATE + POWER,
            "int rollback(int ) throws " + NONE_THERE + STATE + POWER,
            "boolean fuse(int ) throws ",
            "int recover() throws " + STATE,
            "boolean isDown() throws ",
            "int writes() throws ",
            "int used() throws " + POWER,
            "int copyOf(int int ) throws " + NONE_THERE + ARGUMENT + POWER,
            "int places() throws " + POWER,
            "int changed(int ) throws " + NONE_THERE + POWER);

    public static void main(String[] args) {
        Check check = new Check();
        Set<String> seen = new TreeSet<>();
        Set<String> publicNames = new TreeSet<>();
        for (Constructor<?> c : SnapshotVolume.class.getDeclaredConstructors()) {
            seen.add("SnapshotVolume" + callOf(c));
            check.same(c + " is public", Modifier.isPublic(c.getModifiers()), true);
        }
        for (Method m : SnapshotVolume.class.getDeclaredMethods()) {
            if (isOpen(m)) {
                seen.add(m.getReturnType().getSimpleName() + " " + m.getName() + callOf(m));
                publicNames.add(m.getName());
            }
        }
        for (Method m : SnapshotVolume.class.getDeclaredMethods()) {
            check.same(m + " bears a public name", !isOpen(m) && publicNames.contains(m.getName()), false);
        }
        for (Field f : SnapshotVolume.class.getDeclaredFields()) {
            check.same(f + " is private", isOpen(f), false);
        }
        check.same("the open members", seen.toString(), new TreeSet<>(FACE).toString());
        int modifiers = SnapshotVolume.class.getModifiers();
        check.same("public and final", Modifier.isPublic(modifiers) && Modifier.isFinal(modifiers), true);
        check.end();
    }

    private static boolean isOpen(Member m) {
        return !Modifier.isPrivate(m.getModifiers());
    }

    private static String callOf(Executable e) {
        return "(" + namesOf(e.getParameterTypes()) + ") throws " + namesOf(e.getExceptionTypes());
    }

    private static String namesOf(Class<?>[] types) {
        StringBuilder text = new StringBuilder();
        for (Class<?> type : types) {
            text.append(type.getSimpleName()).append(' ');
        }
        return text.toString();
    }
}
