import java.lang.reflect.Constructor;
import java.lang.reflect.Field;
import java.lang.reflect.Member;
import java.lang.reflect.Method;
import java.lang.reflect.Modifier;
import java.util.Arrays;
import java.util.Set;
import java.util.TreeSet;

/** The public face: just the document's, all else private. */
final class FaceTest {
    private static final Set<String> FACE = new TreeSet<>(Arrays.asList(
        "BAD int", "NO int", "FULL int", "new []",
        "type[long, int]", "pass[]", "term[int, int]", "of[int, int]", "variable[]", "row[]",
        "put[int, int, int]", "clear[]", "value[int, int]", "write[int]", "say[int, boolean]", "at[int]",
        "read[int]", "hear[int]", "keep[]", "same[boolean]", "lacks[int]", "distinct[]", "count[int]"));

    private static boolean isSeen(Member m) {
        return !m.isSynthetic() && !Modifier.isPrivate(m.getModifiers());
    }

    public static void main(String[] args) {
        Set<String> seen = new TreeSet<>();
        for (Field f : ResultForms.class.getDeclaredFields()) {
            if (isSeen(f)) seen.add(f.getName() + " " + f.getType());
            int m = f.getModifiers();
            if (isSeen(f)) Subject.due(f.getName() + " is a public constant",
                m, Modifier.PUBLIC | Modifier.STATIC | Modifier.FINAL);
            if (Modifier.isStatic(m)) Subject.due(f.getName() + " is final", Modifier.isFinal(m) ? 1 : 0, 1);
        }
        for (Constructor<?> c : ResultForms.class.getDeclaredConstructors()) {
            if (isSeen(c)) seen.add("new " + Arrays.toString(c.getParameterTypes()));
        }
        Set<String> names = new TreeSet<>();
        for (Method m : ResultForms.class.getDeclaredMethods()) {
            if (!isSeen(m)) continue;
            seen.add(m.getName() + Arrays.toString(m.getParameterTypes()));
            names.add(m.getName());
            Subject.due(m.getName() + " is public", Modifier.isPublic(m.getModifiers()) ? 1 : 0, 1);
            Subject.due(m.getName() + " answers", m.getReturnType().toString(), "int");
        }
        Subject.due("the face", seen.toString(), FACE.toString());
        Subject.due("the class is public and final", ResultForms.class.getModifiers(), Modifier.PUBLIC | Modifier.FINAL);
        for (Class<?> c : ResultForms.class.getDeclaredClasses()) {
            Subject.due(c.getName() + " is static", Modifier.isStatic(c.getModifiers()) ? 1 : 0, 1);
            for (Method m : c.getDeclaredMethods()) {
                Subject.due(c.getName() + "." + m.getName() + " bears a public name", names.contains(m.getName()) ? 1 : 0, 0);
            }
        }
        Subject.due("BAD", ResultForms.BAD, -1);
        Subject.due("NO", ResultForms.NO, -2);
        Subject.due("FULL", ResultForms.FULL, -3);
        Subject.end();
    }
}
