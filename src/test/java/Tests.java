import java.lang.reflect.InvocationTargetException;
import java.lang.reflect.Method;
import java.lang.reflect.Modifier;
import java.util.Arrays;
import java.util.Comparator;

/** Runs the tests of a class: its static methods that take nothing and answer nothing. */
final class Tests {
    private Tests() {
    }

    static void run(Class<?> tests) {
        Method[] all = tests.getDeclaredMethods();
        Arrays.sort(all, Comparator.comparing(Method::getName));
        int ran = 0;
        for (Method test : all) {
            if (isTest(test)) {
                runOne(test);
                ran++;
            }
        }
        Due.end(tests.getSimpleName() + ", " + ran + " tests");
    }

    private static boolean isTest(Method method) {
        return Modifier.isStatic(method.getModifiers()) && method.getParameterCount() == 0
            && method.getReturnType() == void.class && !method.isSynthetic();
    }

    private static void runOne(Method test) {
        Due.begin(test.getName());
        try {
            test.setAccessible(true);
            test.invoke(null);
        } catch (InvocationTargetException e) {
            e.getCause().printStackTrace(System.out);
            Due.due("threw", 1, 0);
        } catch (IllegalAccessException e) {
            throw new IllegalStateException(e);
        }
        Due.due("it asked something", Due.hasAsked() ? 1 : 0, 1);
    }
}
