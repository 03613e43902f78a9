import java.lang.reflect.Constructor;
import java.lang.reflect.Field;
import java.lang.reflect.Method;
import java.lang.reflect.Modifier;
import java.util.Arrays;
import java.util.TreeSet;

/** The public face: just what the document has, and no private method of a public one's name. */
public final class FaceTest {
    private static final Check CHECK = new Check("FaceTest");
    private static final String[] FACE = {
        "public int FindLog.act(int,int) throws IndexOutOfBoundsException,IllegalArgumentException,IllegalStateException",
        "public int FindLog.badAt()",
        "public int FindLog.crash(int) throws IllegalArgumentException,IllegalStateException",
        "public int FindLog.cut() throws IllegalStateException",
        "public int FindLog.day(int) throws IndexOutOfBoundsException,IllegalStateException",
        "public int FindLog.feed(int) throws IllegalArgumentException,IllegalStateException",
        "public int FindLog.find(int,int) throws IndexOutOfBoundsException,IllegalStateException",
        "public int FindLog.flush() throws IllegalStateException",
        "public int FindLog.head(int) throws IndexOutOfBoundsException",
        "public int FindLog.part() throws IllegalStateException",
        "public int FindLog.poke(int,int) throws IndexOutOfBoundsException,IllegalArgumentException,IllegalStateException",
        "public int FindLog.reopen() throws IllegalStateException",
        "public int FindLog.stored(int) throws IndexOutOfBoundsException",
        "public int FindLog.tear() throws IllegalStateException",
        "public long FindLog.seal() throws IllegalStateException",
        "public FindLog()",
        "public static final int FindLog.NONE",
    };

    public static void main(String[] args) {
        TreeSet<String> seen = new TreeSet<>();
        TreeSet<String> publicNames = new TreeSet<>();
        for (Method method : FindLog.class.getDeclaredMethods()) {
            if (isSeen(method.getModifiers()) && !method.isSynthetic()) {
                seen.add(plain(method.toString()));
                publicNames.add(method.getName());
            }
        }
        for (Constructor<?> constructor : FindLog.class.getDeclaredConstructors()) {
            seen.add(plain(constructor.toString()));
        }
        for (Field field : FindLog.class.getDeclaredFields()) {
            if (isSeen(field.getModifiers())) {
                seen.add(plain(field.toString()));
            }
        }
        TreeSet<String> due = new TreeSet<>(Arrays.asList(FACE));
        if (!seen.equals(due)) {
            CHECK.tell("the face", seen.toString(), due.toString());
        }
        privateNames(publicNames);
        CHECK.same("final", Modifier.isFinal(FindLog.class.getModifiers()) ? 1 : 0, 1);
        CHECK.end();
    }

    private static void privateNames(TreeSet<String> publicNames) {
        for (Class<?> inside : FindLog.class.getDeclaredClasses()) {
            for (Method method : inside.getDeclaredMethods()) {
                CHECK.same(method.toString(), publicNames.contains(method.getName()) ? 1 : 0, 0);
            }
        }
        for (Method method : FindLog.class.getDeclaredMethods()) {
            if (!isSeen(method.getModifiers())) {
                CHECK.same(method.toString(), publicNames.contains(method.getName()) ? 1 : 0, 0);
            }
        }
    }

    private static boolean isSeen(int modifiers) {
        return !Modifier.isPrivate(modifiers);
    }

    private static String plain(String text) {
        return text.replace("java.lang.", "");
    }
}
