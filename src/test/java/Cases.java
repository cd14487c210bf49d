import java.lang.reflect.InvocationTargetException;
import java.lang.reflect.Method;
import java.util.Map;
import java.util.TreeMap;

/**
 * Runs every case of a class: each static method that is named promise, the promise's number, an
 * underscore and what the case is. They are found by name, so that none is written and not run.
 */
final class Cases {
    private static final String NAME = "promise([0-9]+)_.+";

    private Cases() {
    }

    static void run(Class<?> tests) {
        Map<String, Method> cases = byPromise(tests);
        int failed = 0;
        for (Method test : cases.values()) {
            failed += passes(test) ? 0 : 1;
        }
        System.out.println(cases.size() + " cases, " + failed + " failed");
        if (failed > 0 || cases.isEmpty()) {
            System.exit(1);
        }
    }

    private static Map<String, Method> byPromise(Class<?> tests) {
        Map<String, Method> cases = new TreeMap<>();
        for (Method method : tests.getDeclaredMethods()) {
            String name = method.getName();
            if (name.matches(NAME)) {
                int promise = Integer.parseInt(name.replaceAll(NAME, "$1"));
                cases.put(String.format("%02d %s", promise, name), method);
            }
        }
        return cases;
    }

    private static boolean passes(Method test) {
        Check check = new Check(test.getName() + ": ");
        try {
            test.invoke(null, check);
        } catch (InvocationTargetException e) {
            check.tell("threw " + e.getCause());
        } catch (ReflectiveOperationException | IllegalArgumentException e) {
            check.tell("could not be run, " + e);
        }
        return check.isClean();
    }
}
