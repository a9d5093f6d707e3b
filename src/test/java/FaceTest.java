import java.lang.reflect.Constructor;
import java.lang.reflect.Field;
import java.lang.reflect.Method;
import java.lang.reflect.Modifier;
import java.util.Set;
import java.util.TreeSet;

/** The public face: just the document's constant, constructor and methods, and no other that can be seen. */
public final class FaceTest {
    private static final Set<String> DUE = Set.of(
        "int NONE", "PlainPort()", "int event(int, int, int, int)", "boolean known(int)",
        "int place(int, int, int)", "int at(int, int, int)", "int state(int, int, int)",
        "int sum(int, int, int)", "int quota(int, int, int)", "int apart(int, int, int, int)",
        "int least(int, int)", "int look(int, int)", "int changed(int, int, int)", "int count(int)");

    public static void main(String[] args) {
        Class<?> face = PlainPort.class;
        int flags = face.getModifiers();
        Check.due("public and final", Modifier.isPublic(flags) && Modifier.isFinal(flags), true);
        Check.due("NONE", PlainPort.NONE, -1);
        Set<String> seen = new TreeSet<>();
        Set<String> names = new TreeSet<>();
        for (Field f : face.getDeclaredFields()) {
            see(seen, f.getModifiers(), f.getType().getName() + " " + f.getName());
            Check.due("final if static: " + f, !Modifier.isStatic(f.getModifiers())
                || Modifier.isFinal(f.getModifiers()), true);
        }
        for (Constructor<?> c : face.getDeclaredConstructors()) {
            see(seen, c.getModifiers(), "PlainPort" + listed(c.getParameterTypes()));
        }
        for (Method m : face.getDeclaredMethods()) {
            see(seen, m.getModifiers(), m.getReturnType().getName() + " " + m.getName() + listed(m.getParameterTypes()));
            Check.due("the only one of its name: " + m, names.add(m.getName()), true);
        }
        Check.due("the face " + seen, seen.equals(new TreeSet<>(DUE)), true);
        Check.end();
    }

    private static void see(Set<String> seen, int flags, String member) {
        if (!Modifier.isPrivate(flags)) {
            seen.add((Modifier.isPublic(flags) ? "" : "not public: ") + member);
        }
    }

    private static String listed(Class<?>[] types) {
        StringBuilder out = new StringBuilder("(");
        for (Class<?> type : types) {
            out.append(out.length() > 1 ? ", " : "").append(type.getName());
        }
        return out.append(")").toString();
    }
}
