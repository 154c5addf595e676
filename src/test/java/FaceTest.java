import java.lang.reflect.Constructor;
import java.lang.reflect.Field;
import java.lang.reflect.Member;
import java.lang.reflect.Method;
import java.lang.reflect.Modifier;
import java.util.ArrayList;
import java.util.Arrays;
import java.util.Collections;
import java.util.List;

/** The public face, nothing beside it that is not private, and what else of LANGUAGE.md the compiled class shows. */
public final class FaceTest {
    public static void main(String[] args) {
        Check check = new Check();
        face(check, StackComputer.class);
        privateMethodsHaveNamesOfTheirOwn(check, StackComputer.class);
        staticFieldsAreConstants(check, StackComputer.class);
        check.done();
    }

    private static void face(Check check, Class<?> face) {
        check.same("modifiers", Modifier.toString(face.getModifiers()), "public final");
        List<String> got = new ArrayList<>();
        for (Constructor<?> c : face.getDeclaredConstructors()) {
            addIfSeen(got, c, c.toGenericString());
        }
        for (Method m : face.getDeclaredMethods()) {
            addIfSeen(got, m, m.toGenericString());
        }
        for (Field f : face.getDeclaredFields()) {
            addIfSeen(got, f, f.toGenericString());
        }
        List<String> due = new ArrayList<>(Arrays.asList(
            "public StackComputer()",
            "public void StackComputer.word(int,int) throws java.lang.IndexOutOfBoundsException",
            "public void StackComputer.code(int,int) throws java.lang.IndexOutOfBoundsException",
            "public void StackComputer.boot(int,int,int,int)",
            "public int StackComputer.run(int)"
                + " throws java.lang.IllegalArgumentException,java.lang.IllegalStateException",
            "public int StackComputer.register(int) throws java.lang.IllegalArgumentException",
            "public int StackComputer.look(int) throws java.lang.IndexOutOfBoundsException",
            "public int StackComputer.sum()"));
        Collections.sort(got);
        Collections.sort(due);
        check.same("face", got.toString(), due.toString());
    }

    /** LANGUAGE.md, rule 1. */
    private static void privateMethodsHaveNamesOfTheirOwn(Check check, Class<?> face) {
        for (Method hidden : face.getDeclaredMethods()) {
            for (Method open : face.getDeclaredMethods()) {
                boolean both = Modifier.isPrivate(hidden.getModifiers()) && Modifier.isPublic(open.getModifiers());
                if (both && hidden.getName().equals(open.getName())) {
                    check.same("a private method's name", hidden.getName(), "one that no public method bears");
                }
            }
        }
    }

    /** LANGUAGE.md, rule 5: the class needs no constants but ints, so that nothing of it can be changed. */
    private static void staticFieldsAreConstants(Check check, Class<?> face) {
        for (Field field : face.getDeclaredFields()) {
            if (Modifier.isStatic(field.getModifiers())) {
                check.same(field.getName(), Modifier.toString(field.getModifiers()) + " " + field.getType(),
                    "private static final int");
            }
        }
    }

    private static void addIfSeen(List<String> seen, Member member, String text) {
        if (!Modifier.isPrivate(member.getModifiers()) && !member.isSynthetic()) {
            seen.add(text);
        }
    }
}
