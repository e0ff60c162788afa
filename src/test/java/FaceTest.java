import java.lang.reflect.Constructor;
import java.lang.reflect.Field;
import java.lang.reflect.Method;
import java.lang.reflect.Modifier;
import java.util.Arrays;
import java.util.Set;
import java.util.TreeSet;

/** The public face of the document, and rules 1, 5 and 11 of LANGUAGE.md as far as they show. */
public final class FaceTest {
    private static final String[] FACE = {
        "int slave(int)", "int frame(int, int, int, boolean)", "int slot(int, int)", "int run(int)",
        "int parity(int)", "int sum(int)", "int answer(int, int, byte)", "int collision(int, int)",
        "int wake(int)", "int sleep()", "int rate(int, int)", "int error(int, int)", "byte at(int, int)"};

    public static void main(String[] args) {
        Check.due("public and final", Modifier.PUBLIC | Modifier.FINAL, LinRows.class.getModifiers());
        methods();
        fields(LinRows.class);
        for (Constructor<?> c : LinRows.class.getDeclaredConstructors()) {
            Check.due("the constructor is public", Modifier.PUBLIC, c.getModifiers());
            Check.due("and takes nothing", 0, c.getParameterCount());
        }
        int inside = 0;
        for (Class<?> k : LinRows.class.getDeclaredClasses()) {
            inside++;
            fields(k);
            Check.due(k + " is static", 1, Modifier.isStatic(k.getModifiers()) ? 1 : 0);
            Check.due(k + " is not public", 0, Modifier.isPublic(k.getModifiers()) ? 1 : 0);
        }
        Check.due("some twelve classes", 1, inside <= 11 ? 1 : 0);
        Check.end();
    }

    private static void methods() {
        Set<String> shown = new TreeSet<>();
        Set<String> names = new TreeSet<>();
        for (Method m : LinRows.class.getDeclaredMethods()) {
            Check.due(m + " takes at most seven", 1, m.getParameterCount() <= 7 ? 1 : 0);
            Check.due(m + ": no two methods share a name", 1, names.add(m.getName()) ? 1 : 0);
            if (!Modifier.isPrivate(m.getModifiers())) {
                Check.due(m + " is public", Modifier.PUBLIC, m.getModifiers());
                String takes = Arrays.toString(m.getParameterTypes());
                shown.add(m.getReturnType() + " " + m.getName() + "(" + takes.substring(1, takes.length() - 1) + ")");
            }
        }
        Set<String> due = new TreeSet<>(Arrays.asList(FACE));
        Check.due("the face is " + shown, 1, shown.equals(due) ? 1 : 0);
    }

    private static void fields(Class<?> k) {
        int own = 0;
        for (Field f : k.getDeclaredFields()) {
            boolean constant = Modifier.isStatic(f.getModifiers());
            own += constant ? 0 : 1;
            Check.due(f + " is final if static", 1, !constant || Modifier.isFinal(f.getModifiers()) ? 1 : 0);
            Check.due(f + " is private", 1, k != LinRows.class || Modifier.isPrivate(f.getModifiers()) ? 1 : 0);
        }
        Check.due(k + " has some twenty fields", 1, own <= 20 ? 1 : 0);
    }
}
