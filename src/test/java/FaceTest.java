import java.lang.reflect.Constructor;
import java.lang.reflect.Field;
import java.lang.reflect.Member;
import java.lang.reflect.Method;
import java.lang.reflect.Modifier;
import java.util.ArrayList;
import java.util.Collections;
import java.util.HashSet;
import java.util.List;
import java.util.Set;

/** The public face: the members that the document names, and no other that can be seen from outside. */
public final class FaceTest {
    private static final String[] DUE = {
        "public ClockedChip()",
        "public boolean ClockedChip.pin(int,boolean) throws java.lang.IndexOutOfBoundsException",
        "public int ClockedChip.cycle()",
        "public int ClockedChip.cycles(int) throws java.lang.IllegalArgumentException",
        "public int ClockedChip.peek(int)",
        "public int ClockedChip.poke(int,int)",
        "public int ClockedChip.register(int) throws java.lang.IndexOutOfBoundsException",
        "public void ClockedChip.reset()",
        "public void ClockedChip.set(int,int) throws java.lang.IndexOutOfBoundsException,"
            + "java.lang.IllegalStateException",
    };

    public static void main(String[] args) {
        Check check = new Check();
        Class<ClockedChip> face = ClockedChip.class;
        check.same("final", Modifier.isFinal(face.getModifiers()), true);
        check.same("public", Modifier.isPublic(face.getModifiers()), true);

        List<String> seen = new ArrayList<>();
        Set<String> open = new HashSet<>();
        for (Constructor<?> c : face.getDeclaredConstructors()) {
            if (isSeen(c)) {
                seen.add(c.toString());
            }
        }
        for (Method m : face.getDeclaredMethods()) {
            if (isSeen(m)) {
                seen.add(m.toString());
                open.add(m.getName());
            }
        }
        for (Field f : face.getDeclaredFields()) {
            if (isSeen(f)) {
                seen.add(f.toString());
            }
        }
        for (Method m : face.getDeclaredMethods()) {
            check.same("a private " + m.getName(), !isSeen(m) && open.contains(m.getName()), false);
        }
        Collections.sort(seen);
        if (!seen.equals(List.of(DUE))) {
            System.out.println("the face is " + seen);
            check.same("the face is as due", false, true);
        }
        check.finish();
    }

    private static boolean isSeen(Member m) {
        return !Modifier.isPrivate(m.getModifiers()) && !m.isSynthetic();
    }
}
