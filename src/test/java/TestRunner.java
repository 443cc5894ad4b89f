import java.lang.reflect.InvocationTargetException;
import java.lang.reflect.Method;
import java.lang.reflect.Modifier;
import java.util.Arrays;
import java.util.Comparator;

/** Runs the static methods without arguments of the classes that are named, each as one test. */
final class TestRunner {
    private static int passed = 0;
    private static int failed = 0;

    public static void main(String[] classNames) throws ReflectiveOperationException {
        for (String name : classNames) {
            runAll(Class.forName(name));
        }
        System.out.println("own: " + passed + " passed, " + failed + " failed");
        System.exit(failed == 0 && passed > 0 ? 0 : 1);
    }

    private static void runAll(Class<?> tests) throws IllegalAccessException {
        Method[] methods = tests.getDeclaredMethods();
        // Reflection promises no order, and the output is to be the same each time.
        Arrays.sort(methods, Comparator.comparing(Method::getName));
        for (Method method : methods) {
            if (isTest(method)) {
                run(tests.getName(), method);
            }
        }
    }

    static boolean isTest(Method method) {
        int modifiers = method.getModifiers();
        return Modifier.isStatic(modifiers) && !Modifier.isPrivate(modifiers)
                && !method.isSynthetic() && method.getParameterCount() == 0
                && method.getReturnType() == void.class;
    }

    private static void run(String className, Method method) throws IllegalAccessException {
        try {
            method.setAccessible(true);
            method.invoke(null);
            passed++;
        } catch (InvocationTargetException e) {
            failed++;
            System.out.println("FAILED: " + className + "." + method.getName() + ": " + e.getCause());
        }
    }
}
