import java.lang.reflect.Constructor;
import java.lang.reflect.Field;
import java.lang.reflect.Method;
import java.lang.reflect.Modifier;
import java.util.Arrays;
import java.util.TreeSet;

/** The public face: what the document lists, and nothing else that could be seen from outside. */
public final class FaceTest {
    private static final String[] DUE = {
        "public FrameUnwinder()",
        "public static final int FrameUnwinder.NONE",
        "public int FrameUnwinder.feed(int) throws java.lang.UnsupportedOperationException",
        "public void FrameUnwinder.end(int) throws java.lang.IllegalArgumentException",
        "public int FrameUnwinder.spoil(int,int) throws java.lang.IndexOutOfBoundsException",
        "public int FrameUnwinder.fault()",
        "public int FrameUnwinder.entries()",
        "public int FrameUnwinder.find(int) throws java.lang.IllegalStateException",
        "public int FrameUnwinder.row(int,int,int) throws java.lang.IllegalStateException,"
            + "java.util.NoSuchElementException,java.lang.IllegalArgumentException",
        "public void FrameUnwinder.word(int,int) throws java.lang.IndexOutOfBoundsException",
        "public void FrameUnwinder.register(int,int) throws java.lang.IndexOutOfBoundsException",
        "public void FrameUnwinder.start(int)",
        "public int FrameUnwinder.reckon(int,int,int) throws java.lang.IllegalArgumentException",
        "public int FrameUnwinder.value()",
        "public int FrameUnwinder.unwind(int) throws java.lang.IllegalStateException,"
            + "java.lang.IllegalArgumentException",
        "public int FrameUnwinder.get(int) throws java.lang.IndexOutOfBoundsException"};

    private FaceTest() {
    }

    public static void main(String[] args) {
        TreeSet<String> due = new TreeSet<>(Arrays.asList(DUE));
        TreeSet<String> seen = visibleMembers();
        for (String member : due) {
            Check.same("whether there is " + member, seen.contains(member) ? 1 : 0, 1);
        }
        for (String member : seen) {
            Check.same("whether " + member + " is in the document", due.contains(member) ? 1 : 0, 1);
        }
        int modifiers = FrameUnwinder.class.getModifiers();
        Check.same("whether the class is public", Modifier.isPublic(modifiers) ? 1 : 0, 1);
        Check.same("whether the class is final", Modifier.isFinal(modifiers) ? 1 : 0, 1);
        Check.finish();
    }

    private static TreeSet<String> visibleMembers() {
        TreeSet<String> seen = new TreeSet<>();
        for (Constructor<?> one : FrameUnwinder.class.getDeclaredConstructors()) {
            if (!Modifier.isPrivate(one.getModifiers()) && !one.isSynthetic()) {
                seen.add(one.toString());
            }
        }
        for (Method one : FrameUnwinder.class.getDeclaredMethods()) {
            if (!Modifier.isPrivate(one.getModifiers()) && !one.isSynthetic()) {
                seen.add(one.toString());
            }
        }
        for (Field one : FrameUnwinder.class.getDeclaredFields()) {
            if (!Modifier.isPrivate(one.getModifiers()) && !one.isSynthetic()) {
                seen.add(one.toString());
            }
        }
        return seen;
    }
}
