import java.lang.reflect.Constructor;
import java.lang.reflect.Field;
import java.lang.reflect.Method;
import java.lang.reflect.Modifier;
import java.util.Arrays;
import java.util.TreeSet;

/** The face: constants, constructor and methods of the document, and no others that can be seen. */
public final class FaceTest {
    public static void main(String[] args) throws Exception {
        Checks c = new Checks();
        c.due("NONE", MakerStarts.NONE, -1);
        c.due("BAD", MakerStarts.BAD, -2);
        c.due("FULL", MakerStarts.FULL, -4);
        c.due("STATE", MakerStarts.STATE, -5);
        c.due("the class is public and final", MakerStarts.class.getModifiers(), Modifier.PUBLIC | Modifier.FINAL);

        TreeSet<String> seen = new TreeSet<>();
        for (Method m : MakerStarts.class.getDeclaredMethods()) {
            if (!Modifier.isPrivate(m.getModifiers())) {
                seen.add(m.getReturnType() + " " + m.getName() + Arrays.toString(m.getParameterTypes()));
            }
        }
        for (Field f : MakerStarts.class.getDeclaredFields()) {
            if (!Modifier.isPrivate(f.getModifiers())) {
                seen.add(f.getType() + " " + f.getName());
            }
        }
        for (Constructor<?> k : MakerStarts.class.getDeclaredConstructors()) {
            seen.add("new" + Arrays.toString(k.getParameterTypes()));
        }
        TreeSet<String> due = new TreeSet<>(Arrays.asList(
                "int feed[long, int]", "int read[]", "int place[]", "int told[int]", "int type[int, int]",
                "int make[int, int, int, int, int]", "int start[int]", "int marked[int]", "int field[int, int]",
                "int held[int, int]", "int fails[int, int]", "new[]",
                "int NONE", "int BAD", "int FULL", "int STATE"));
        if (!seen.equals(due)) {
            System.out.println("seen " + seen + ", due is " + due);
        }
        c.due("the face is that of the document", seen.equals(due) ? 1 : 0, 1);
        c.end();
    }
}
