import java.lang.reflect.Constructor;
import java.lang.reflect.Field;
import java.lang.reflect.Method;
import java.lang.reflect.Modifier;
import java.util.Arrays;
import java.util.List;
import java.util.Set;
import java.util.TreeSet;

/** The public face: just what the document has, and nothing beside it. */
public final class FaceTest {
    private static final String[] METHODS = {
        "int feed(int, int, int, int, int)", "int end(int)", "int ground()", "int fault(int)", "int point(int, int)",
        "long number(int, int)", "int loops(int, int)", "int traced(int, int)", "int flips(int)", "int flip(int, int)",
        "long cross(int, int)", "int across(int, int)", "int kept(int)", "int alike(int, int)", "int order(int)",
        "long stretch(int, int, int)", "int table(int, int, int, int)", "int polynomial(int, int, int)",
        "int least(int, int)", "int lies(int)", "long lay(int)", "long twist(int, int)", "long go(int)",
        "boolean undo()", "boolean redo()", "int sketch()", "long image(int)", "long back(int)", "int about(int)"};

    public static void main(String[] args) {
        Class<?> face = LoopGround.class;
        Check.due("public and final", face.getModifiers(), Modifier.PUBLIC | Modifier.FINAL);
        Check.due("no package", face.getPackageName().isEmpty(), true);
        Set<String> open = new TreeSet<>();
        Set<String> names = new TreeSet<>();
        for (Method m : face.getDeclaredMethods()) {
            if (!Modifier.isPrivate(m.getModifiers()) && !m.isSynthetic()) {
                Check.due("public: " + m, m.getModifiers(), Modifier.PUBLIC);
                open.add(told(m));
                names.add(m.getName());
            }
        }
        Check.due("methods " + open, open.equals(new TreeSet<>(List.of(METHODS))), true);
        hidden(face, names);
        Constructor<?>[] constructors = face.getDeclaredConstructors();
        Check.due("constructors", constructors.length, 1);
        Check.due("public constructor", constructors[0].getModifiers(), Modifier.PUBLIC);
        Check.due("its parameters", constructors[0].getParameterCount(), 0);
        for (Field f : face.getDeclaredFields()) {
            boolean constant = f.getName().equals("NONE") || f.getName().equals("GAP");
            int want = constant ? Modifier.PUBLIC | Modifier.STATIC | Modifier.FINAL : Modifier.PRIVATE;
            Check.due("field " + f, f.getModifiers() & (constant ? -1 : Modifier.PRIVATE), want);
        }
        Check.due("NONE", LoopGround.NONE, -1);
        Check.due("GAP", LoopGround.GAP, -1000000);
        Check.finish(FaceTest.class);
    }

    private static void hidden(Class<?> face, Set<String> names) {
        for (Class<?> inside : face.getDeclaredClasses()) {
            Check.due("static: " + inside, Modifier.isStatic(inside.getModifiers()), true);
            for (Method m : inside.getDeclaredMethods()) {
                Check.due("no name of the face: " + m, names.contains(m.getName()), false);
            }
        }
        for (Method m : face.getDeclaredMethods()) {
            boolean same = Modifier.isPrivate(m.getModifiers()) && names.contains(m.getName());
            Check.due("no name of the face: " + m, same, false);
        }
    }

    private static String told(Method m) {
        String types = Arrays.toString(Arrays.stream(m.getParameterTypes()).map(Class::getName).toArray());
        return m.getReturnType().getName() + " " + m.getName() + "(" + types.substring(1, types.length() - 1) + ")";
    }
}
