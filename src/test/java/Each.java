import java.lang.reflect.Method;
import java.util.Map;
import java.util.TreeMap;

/** Runs the tests of a class: its static methods named by a promise's number, promise03_..., in the order of names. */
final class Each {
    private static final String NAMED = "promise";

    private Each() {
    }

    static void run(Class<?> tests) throws Exception {
        for (Map.Entry<String, Method> test : in(tests).entrySet()) {
            Check.begins(test.getKey());
            test.getValue().invoke(null);
        }
        Check.end(tests.getName());
    }

    static Map<String, Method> in(Class<?> tests) {
        Map<String, Method> found = new TreeMap<>();
        for (Method m : tests.getDeclaredMethods()) {
            if (m.getName().startsWith(NAMED)) {
                found.put(m.getName(), m);
            }
        }
        return found;
    }

    /** The number of the promise by which a test is named. */
    static int promiseOf(String name) {
        return Integer.parseInt(name.substring(NAMED.length(), NAMED.length() + 2));
    }
}
