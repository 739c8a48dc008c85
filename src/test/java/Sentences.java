import java.lang.reflect.InvocationTargetException;
import java.lang.reflect.Method;
import java.util.ArrayList;
import java.util.Comparator;
import java.util.List;

/** Runs the tests of a class that name their sentence, and tells the sentence of each one that fails. */
final class Sentences {
    private Sentences() {
    }

    /** The tests of a class, by their names. */
    static List<Method> of(Class<?> tests) {
        List<Method> found = new ArrayList<>();
        for (Method m : tests.getDeclaredMethods()) {
            if (m.isAnnotationPresent(Sentence.class)) {
                found.add(m);
            }
        }
        found.sort(Comparator.comparing(Method::getName));
        return found;
    }

    /** Ends the program, with exit code 1 if a test failed. */
    static void test(Class<?> tests) {
        int failed = 0;
        List<Method> all = of(tests);
        for (Method m : all) {
            if (!holds(m)) {
                failed++;
                Sentence sentence = m.getAnnotation(Sentence.class);
                System.out.println("  in " + m.getName() + ", of \"" + sentence.of() + "\": " + sentence.says());
            }
        }
        System.out.println(all.size() - failed + " of " + all.size() + " tests passed");
        if (failed != 0 || all.isEmpty()) {
            System.exit(1);
        }
    }

    private static boolean holds(Method test) {
        Due due = new Due();
        try {
            test.invoke(null, due);
        } catch (InvocationTargetException e) {
            System.out.println("ended by " + e.getCause());
            return false;
        } catch (IllegalAccessException e) {
            System.out.println("cannot be called: " + e);
            return false;
        }
        return due.wrong() == 0;
    }
}
