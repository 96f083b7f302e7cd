import java.lang.reflect.Constructor;
import java.lang.reflect.Field;
import java.lang.reflect.Method;
import java.lang.reflect.Modifier;
import java.util.Arrays;
import java.util.Set;
import java.util.TreeSet;

/** The class has the document's face and no more (LANGUAGE.md, rules 1, 2, 3, 5 and 11). */
public final class FaceTest {
    private static final String[] FACE = {
        "int feed int int int int int", "int end int", "int work", "int rule", "int kind int int", "int fault int int",
        "int look int", "int fine int", "int mend int", "int dawn", "int day int", "int would int int", "int row int",
        "long worth int", "long seen int int", "long best int int", "long master int int", "int game int int", "int rests",
        "int mixed int int", "int checks int int", "int fits int int", "int seed int", "int weeks int int int",
        "int count int", "int coins int", "int image int", "int back int"};
    private static final Check check = new Check();

    public static void main(String[] args) {
        Class<?> face = PaidMistakes.class;
        check.holds("public and final", Modifier.isPublic(face.getModifiers()) && Modifier.isFinal(face.getModifiers()));
        Set<String> found = new TreeSet<>();
        Set<String> names = new TreeSet<>();
        for (Method m : face.getDeclaredMethods()) {
            if (!Modifier.isPrivate(m.getModifiers())) {
                found.add(told(m));
                names.add(m.getName());
                check.holds(m.getName() + " is public and not static", Modifier.isPublic(m.getModifiers()) && !Modifier.isStatic(m.getModifiers()));
            }
        }
        check.holds("the face is " + found, found.equals(new TreeSet<>(Arrays.asList(FACE))));
        Constructor<?>[] made = face.getDeclaredConstructors();
        check.holds("one constructor", made.length == 1 && made[0].getParameterCount() == 0 && Modifier.isPublic(made[0].getModifiers()));
        for (Field f : face.getDeclaredFields()) {
            check.holds(f.getName() + " is private", Modifier.isPrivate(f.getModifiers()) || f.getName().equals("NONE"));
        }
        check.due("NONE", PaidMistakes.NONE, -1);
        inside(face, names);
        check.holds("twelve classes at most", face.getDeclaredClasses().length + 1 <= 12);
        for (Class<?> c : face.getDeclaredClasses()) {
            check.holds(c + " is static and not public", Modifier.isStatic(c.getModifiers())
                && !Modifier.isPublic(c.getModifiers()) && !Modifier.isProtected(c.getModifiers()));
            inside(c, names);
        }
        check.close("FaceTest");
    }

    private static String told(Method m) {
        StringBuilder told = new StringBuilder(m.getReturnType().getName()).append(' ').append(m.getName());
        for (Class<?> p : m.getParameterTypes()) {
            told.append(' ').append(p.getName());
        }
        return told.toString();
    }

    private static void inside(Class<?> c, Set<String> names) {
        int fields = 0;
        for (Field f : c.getDeclaredFields()) {
            boolean isStatic = Modifier.isStatic(f.getModifiers());
            fields += isStatic ? 0 : 1;
            check.holds(c + " " + f.getName() + ": static fields are final", !isStatic || Modifier.isFinal(f.getModifiers()));
            check.holds(c + " " + f.getName() + ": of an allowed type", f.getType().isPrimitive() || f.getType().isArray()
                || f.getType().getName().startsWith("PaidMistakes$") || f.getType() == String.class);
        }
        check.holds(c + " has some twenty fields at most", fields <= 20);
        for (Method m : c.getDeclaredMethods()) {
            boolean own = c == PaidMistakes.class && !Modifier.isPrivate(m.getModifiers());
            check.holds(c + " " + m.getName() + " bears no name of the face", own || !names.contains(m.getName()));
            check.holds(c + " " + m.getName() + " takes seven at most", m.getParameterCount() <= 7);
        }
    }
}
