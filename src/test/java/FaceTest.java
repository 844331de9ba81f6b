import java.lang.reflect.Constructor;
import java.lang.reflect.Field;
import java.lang.reflect.Method;
import java.lang.reflect.Modifier;
import java.util.Arrays;
import java.util.Set;
import java.util.TreeSet;

/** The class has the document's face and no member more that could be seen. */
public final class FaceTest {
    private static final String[] FACE = {
        "int leaf(long)", "int key(int)", "int asks(int, int)", "int ring(int)",
        "int change(int, long)", "int spoil(int, boolean)", "int begin(int, int)", "int step(int)",
        "int cancel()", "int run(int)", "int state(int)",
        "long value(int) IllegalArgumentException IllegalStateException", "int worked(int)",
        "int kept(int)", "int changed(int)", "int asked(int, int)", "boolean drop(int)",
        "int version()"};

    public static void main(String[] args) {
        Due.is("NONE", KeyGraph.NONE, -1);
        int kind = KeyGraph.class.getModifiers();
        Due.is("public and final", Modifier.isPublic(kind) && Modifier.isFinal(kind), true);
        methods();
        fieldsAndConstructors();
        Due.end();
    }

    private static void methods() {
        Set<String> due = new TreeSet<>(Arrays.asList(FACE));
        Set<String> publicNames = new TreeSet<>();
        Set<String> privateNames = new TreeSet<>();
        for (Method m : KeyGraph.class.getDeclaredMethods()) {
            if (Modifier.isPrivate(m.getModifiers())) {
                privateNames.add(m.getName());
                continue;
            }
            publicNames.add(m.getName());
            boolean plain = Modifier.isPublic(m.getModifiers()) && !Modifier.isStatic(m.getModifiers());
            Due.is("in the face: " + told(m), plain && due.remove(told(m)), true);
        }
        Due.is("missing of the face: " + due, due.size(), 0);
        privateNames.retainAll(publicNames);
        Due.is("private with a public one's name: " + privateNames, privateNames.size(), 0);
    }

    private static String told(Method m) {
        StringBuilder text = new StringBuilder();
        text.append(m.getReturnType().getSimpleName()).append(' ').append(m.getName()).append('(');
        for (int i = 0; i < m.getParameterCount(); i++) {
            text.append(i == 0 ? "" : ", ").append(m.getParameterTypes()[i].getSimpleName());
        }
        text.append(')');
        for (Class<?> e : m.getExceptionTypes()) {
            text.append(' ').append(e.getSimpleName());
        }
        return text.toString();
    }

    private static void fieldsAndConstructors() {
        for (Field f : KeyGraph.class.getDeclaredFields()) {
            boolean hidden = Modifier.isPrivate(f.getModifiers());
            Due.is("hidden or NONE: " + f.getName(), hidden || f.getName().equals("NONE"), true);
            if (Modifier.isStatic(f.getModifiers())) {
                Due.is("final: " + f.getName(), Modifier.isFinal(f.getModifiers()), true);
            }
        }
        Constructor<?>[] made = KeyGraph.class.getDeclaredConstructors();
        Due.is("constructors", made.length, 1);
        Due.is("without parameters", made[0].getParameterCount(), 0);
        Due.is("public", Modifier.isPublic(made[0].getModifiers()), true);
    }
}
