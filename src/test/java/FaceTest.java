import java.lang.reflect.Constructor;
import java.lang.reflect.Field;
import java.lang.reflect.Method;
import java.lang.reflect.Modifier;
import java.util.Arrays;
import java.util.TreeSet;

/** The members that others can see are those of the document, and no other. */
public final class FaceTest {
    private static final String[] FACE = {
        "int feed[int, int, int, int, int]", "int fill[int, int]", "int word[int, int]", "int cut[int]",
        "int verdict[]", "long sum[]", "int load[]", "long told[int]", "long read[int, int]",
        "int write[int, int, int]", "int resize[int]", "int block[int]", "int free[int]",
        "int protect[int, int]", "int restart[]", "int save[]", "int restore[]", "int changed[int]",
        "int hash[int, int]", "int cell[int]"
    };

    public static void main(String[] args) throws Exception {
        Class<?> face = GlulxHeads.class;
        Due.is("the class is public and final", face.getModifiers(), Modifier.PUBLIC | Modifier.FINAL);
        TreeSet<String> seen = new TreeSet<>();
        TreeSet<String> names = new TreeSet<>();
        for (Method m : face.getDeclaredMethods()) {
            if (!Modifier.isPrivate(m.getModifiers())) {
                Due.is(m + " is public alone", m.getModifiers(), Modifier.PUBLIC);
                seen.add(m.getReturnType() + " " + m.getName() + Arrays.toString(m.getParameterTypes()));
                names.add(m.getName());
            }
        }
        TreeSet<String> due = new TreeSet<>(Arrays.asList(FACE));
        Due.is("the methods " + seen + ", due " + due, seen.equals(due) ? 1 : 0, 1);
        noPrivateNamesake(face, names);
        for (Class<?> inside : face.getDeclaredClasses()) {
            Due.is(inside + " is static", inside.getModifiers() & Modifier.STATIC, Modifier.STATIC);
            noPrivateNamesake(inside, names);
        }
        for (Field f : face.getDeclaredFields()) {
            boolean open = !Modifier.isPrivate(f.getModifiers());
            Due.is("field " + f.getName(), open ? 1 : 0, f.getName().equals("NOTHING") ? 1 : 0);
        }
        Constructor<?>[] made = face.getDeclaredConstructors();
        Due.is("constructors", made.length, 1);
        Due.is("its parameters", made[0].getParameterCount(), 0);
        Due.is("it is public", made[0].getModifiers(), Modifier.PUBLIC);
        Class<?>[] thrown = face.getMethod("cell", int.class).getExceptionTypes();
        Due.is("cell throws", thrown.length == 1 && thrown[0] == IndexOutOfBoundsException.class ? 1 : 0, 1);
        Due.end();
    }

    private static void noPrivateNamesake(Class<?> c, TreeSet<String> names) {
        for (Method m : c.getDeclaredMethods()) {
            if (Modifier.isPrivate(m.getModifiers())) {
                Due.is("private " + m.getName(), names.contains(m.getName()) ? 1 : 0, 0);
            }
        }
    }
}
