import java.lang.reflect.InvocationTargetException;
import java.lang.reflect.Method;
import java.lang.reflect.Modifier;
import java.util.Arrays;
import java.util.Comparator;

/** Runs the tests of a class that say a sentence of the document; what is not as due is told with it. */
final class Edges {
    private Edges() {
    }

    static void run(Class<?> tests) {
        Check check = new Check();
        Method[] methods = tests.getDeclaredMethods();
        Arrays.sort(methods, Comparator.comparing(Method::getName));
        for (Method method : methods) {
            if (isTest(method)) {
                runOne(check, method);
            }
        }
        check.heading("");
        check.end();
    }

    /** A test takes the check alone, and is reached from here: helpers are private. */
    static boolean isTest(Method method) {
        return !Modifier.isPrivate(method.getModifiers())
            && Arrays.equals(method.getParameterTypes(), new Class<?>[] {Check.class});
    }

    private static void runOne(Check check, Method method) {
        Says says = method.getAnnotation(Says.class);
        if (says == null) {
            check.heading(method.getName());
            check.fault("says no sentence of the document");
            return;
        }
        check.heading((says.promise() == Says.TERMS ? "Terms" : "Promise " + says.promise())
            + ", \"" + says.sentence() + "\", " + method.getName());
        try {
            method.invoke(null, check);
        } catch (IllegalAccessException e) {
            check.fault("can't be called");
        } catch (InvocationTargetException e) {
            check.fault("ended by " + e.getCause());
        }
    }
}
