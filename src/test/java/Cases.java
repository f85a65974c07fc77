import java.lang.reflect.InvocationTargetException;
import java.lang.reflect.Method;
import java.util.ArrayList;
import java.util.Comparator;
import java.util.List;

/**
 * Runs the cases of a test: its static methods without parameters whose names tell the promise, or
 * "terms" or "readme", and the case. A case that throws fails, and the others still run.
 */
final class Cases {
    private static final String NAME = "(promise[0-9]+|terms|readme)_[A-Za-z0-9]+";

    private Cases() {
    }

    static void run(Class<?> test) throws IllegalAccessException {
        List<Method> cases = new ArrayList<>();
        for (Method method : test.getDeclaredMethods()) {
            if (method.getName().matches(NAME)) {
                cases.add(method);
            }
        }
        cases.sort(Comparator.comparing(Method::getName));
        Due.answer("a test has cases", cases.isEmpty(), false);
        for (Method one : cases) {
            Due.begin(one.getName());
            Due.answer("what the case throws", thrownIn(one), "nothing");
        }
        Due.end();
    }

    private static String thrownIn(Method one) throws IllegalAccessException {
        try {
            one.invoke(null);
            return "nothing";
        } catch (InvocationTargetException e) {
            return e.getCause().toString();
        }
    }
}
