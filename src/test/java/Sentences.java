import java.lang.reflect.InvocationTargetException;
import java.lang.reflect.Method;
import java.util.ArrayList;
import java.util.Comparator;
import java.util.List;

/** Runs tests that each hold one sentence of the document and bear the number of its promise in their name. */
final class Sentences {
    private static final Check check = new Check();

    private Sentences() {
    }

    /** Runs every method of the class whose name begins with "promise", and ends the program with 1 if one fails. */
    static void run(Class<?> tests) throws Exception {
        List<Method> found = new ArrayList<>();
        for (Method method : tests.getDeclaredMethods()) {
            if (method.getName().startsWith("promise")) {
                found.add(method);
            }
        }
        found.sort(Comparator.comparing(Method::getName));
        if (found.isEmpty()) {
            check.fail(tests.getSimpleName() + " has no test");
        }
        for (Method test : found) {
            runOne(test);
        }
        System.out.println(found.size() + " sentences");
        check.end();
    }

    private static void runOne(Method test) throws Exception {
        check.begin(test.getName());
        test.setAccessible(true);
        try {
            test.invoke(null);
        } catch (InvocationTargetException thrown) {
            check.fail("threw " + thrown.getCause());
        }
    }

    static void due(String call, long got, long want) {
        check.due(call, got, want);
    }

    static void dueText(String what, String got, String want) {
        check.due(what + ", told as " + got + ", and as due " + want, got.equals(want) ? 1 : 0, 1);
    }
}
