import java.lang.reflect.InvocationTargetException;
import java.lang.reflect.Method;
import java.lang.reflect.Modifier;
import java.util.TreeMap;

/**
 * Runs the boundary cases of a test: each static method that takes nothing but a Check. Its name
 * tells the promise and the case, and stands ahead of each answer that is not due.
 */
final class Cases {
    private static final String NAMES = "(promise[0-9][0-9]|terms)_[A-Za-z0-9_]+";

    private Cases() {
    }

    static void run(Class<?> test) {
        TreeMap<String, Method> cases = casesOf(test);
        int wrong = cases.isEmpty() ? 1 : 0;
        for (String name : cases.keySet()) {
            if (!holds(name, cases.get(name))) {
                wrong++;
                System.out.println("FAILED: " + name);
            }
        }
        System.out.println(test.getSimpleName() + ": " + cases.size() + " cases, " + wrong + " wrong");
        if (wrong != 0) {
            System.exit(1);
        }
    }

    private static TreeMap<String, Method> casesOf(Class<?> test) {
        TreeMap<String, Method> cases = new TreeMap<>();
        for (Method method : test.getDeclaredMethods()) {
            Class<?>[] takes = method.getParameterTypes();
            if (Modifier.isStatic(method.getModifiers()) && takes.length == 1 && takes[0] == Check.class) {
                cases.put(method.getName(), method);
            }
        }
        return cases;
    }

    /** A case without a check, or with a name that tells no promise, does not hold either. */
    private static boolean holds(String name, Method method) {
        Check check = new Check(name);
        try {
            method.invoke(null, check);
        } catch (InvocationTargetException e) {
            System.out.println(name + ": threw " + e.getCause());
            return false;
        } catch (IllegalAccessException e) {
            System.out.println(name + ": can't be called: " + e);
            return false;
        }
        return check.isClean() && check.hasChecked() && name.matches(NAMES);
    }
}
