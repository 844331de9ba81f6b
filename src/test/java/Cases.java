import java.lang.reflect.InvocationTargetException;
import java.lang.reflect.Method;
import java.lang.reflect.Modifier;
import java.util.Arrays;
import java.util.Comparator;

/** Runs every case of a class, so that none is forgotten: its static methods named p.._ or t.._ */
final class Cases {
    private Cases() {
    }

    static void run(Class<?> test) {
        Method[] methods = test.getDeclaredMethods();
        Arrays.sort(methods, Comparator.comparing(Method::getName));
        for (Method m : methods) {
            if (isCase(m)) {
                runOne(m);
            }
        }
        Due.end();
    }

    private static boolean isCase(Method m) {
        return Modifier.isStatic(m.getModifiers()) && m.getName().matches("[pt][0-9]+_.*");
    }

    private static void runOne(Method m) {
        Due.under(m.getName());
        int before = Due.looked();
        String thrown = "";
        try {
            m.invoke(null);
        } catch (InvocationTargetException e) {
            thrown = String.valueOf(e.getCause());
        } catch (IllegalAccessException e) {
            thrown = e.toString();
        }
        Due.is("thrown: " + thrown, thrown.isEmpty(), true);
        Due.is("it looks at an answer", Due.looked() > before + 1, true);
    }
}
