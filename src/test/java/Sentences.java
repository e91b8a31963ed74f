import java.lang.reflect.InvocationTargetException;
import java.lang.reflect.Method;
import java.util.ArrayList;
import java.util.Arrays;
import java.util.Comparator;
import java.util.List;

/** Runs the tests of a class that say a sentence of the document, each with a new object of RumourBeds. */
final class Sentences {
    private Sentences() {
    }

    static void run(Class<?> tests) {
        List<Method> all = testsOf(tests);
        int failed = 0;
        Watch.endWithin(60);
        for (Method test : all) {
            Watch.isDoing(test.getName());
            failed += passes(test) ? 0 : 1;
        }
        System.out.println(all.size() + " sentences, " + failed + " don't hold");
        if (failed != 0 || all.isEmpty()) {
            System.exit(1);
        }
    }

    static List<Method> testsOf(Class<?> tests) {
        List<Method> all = new ArrayList<>();
        for (Method method : tests.getDeclaredMethods()) {
            if (method.isAnnotationPresent(Says.class)) {
                all.add(method);
            }
        }
        all.sort(Comparator.comparing(Method::getName));
        return all;
    }

    /** A test that throws does not pass: the class may never throw, and no test throws otherwise. */
    static boolean passes(Method test) {
        Due due = new Due();
        try {
            test.invoke(null, new RumourBeds(), due);
        } catch (InvocationTargetException thrown) {
            due.is("it threw " + thrown.getCause() + " " + Arrays.toString(thrown.getCause().getStackTrace()), 1, 0);
        } catch (IllegalAccessException unseen) {
            due.is("it can't be called: " + unseen, 1, 0);
        }
        if (due.wrong().isEmpty()) {
            return true;
        }
        Says says = test.getAnnotation(Says.class);
        System.out.println(test.getName() + ", promise " + says.promise() + ": \"" + says.words() + "\"");
        for (String line : due.wrong()) {
            System.out.println("    " + line);
        }
        return false;
    }
}
