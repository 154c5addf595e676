import java.lang.reflect.Constructor;
import java.lang.reflect.Field;
import java.lang.reflect.Member;
import java.lang.reflect.Method;
import java.lang.reflect.Modifier;
import java.util.ArrayList;
import java.util.Arrays;
import java.util.Collections;
import java.util.List;

/** The public face, and nothing beside it that is not private. */
public final class FaceTest {
    public static void main(String[] args) {
        Check check = new Check();
        Class<?> face = StackComputer.class;
        check.same("modifiers", Modifier.toString(face.getModifiers()), "public final");
        List<String> got = new ArrayList<>();
        for (Constructor<?> c : face.getDeclaredConstructors()) {
            addIfSeen(got, c, c.toGenericString());
        }
        for (Method m : face.getDeclaredMethods()) {
            addIfSeen(got, m, m.toGenericString());
        }
        for (Field f : face.getDeclaredFields()) {
            addIfSeen(got, f, f.toGenericString());
        }
        List<String> due = new ArrayList<>(Arrays.asList(
            "public StackComputer()",
            "public void StackComputer.word(int,int) throws java.lang.IndexOutOfBoundsException",
            "public void StackComputer.code(int,int) throws java.lang.IndexOutOfBoundsException",
            "public void StackComputer.boot(int,int,int,int)",
            "public int StackComputer.run(int)"
                + " throws java.lang.IllegalArgumentException,java.lang.IllegalStateException",
            "public int StackComputer.register(int) throws java.lang.IllegalArgumentException",
            "public int StackComputer.look(int) throws java.lang.IndexOutOfBoundsException",
            "public int StackComputer.sum()"));
        Collections.sort(got);
        Collections.sort(due);
        check.same("face", got.toString(), due.toString());
        check.done();
    }

    private static void addIfSeen(List<String> seen, Member member, String text) {
        if (!Modifier.isPrivate(member.getModifiers()) && !member.isSynthetic()) {
            seen.add(text);
        }
    }
}
