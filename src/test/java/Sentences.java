import java.lang.reflect.InvocationTargetException;
import java.lang.reflect.Method;
import java.util.ArrayList;
import java.util.Comparator;
import java.util.List;

/** Runs the tests of a class that name their sentence, and tells the sentence of each one that fails. */
final class Sentences {
    private Sentences() {
    }

    /** The tests of a class, by their names. */
    static List<Method> of(Class<?> tests) {
        List<Method> found = new ArrayList<>();
        for (Method m : tests.getDeclaredMethods()) {
            if (m.isAnnotationPresent(Sentence.class)) {
                found.add(m);
            }
        }
        found.sort(Comparator.comparing(Method::getName));
        return found;
    }

    /**
     * Runs the tests of these names, or all if none is given. Ends the program, with exit code 1 if a test
     * failed, or if a name is of no test.
     */
    static void test(Class<?> tests, String[] names) {
        int failed = 0;
        List<Method> all = names.length == 0 ? of(tests) : named(of(tests), names);
        for (Method m : all) {
            if (!holds(m)) {
                failed++;
                Sentence sentence = m.getAnnotation(Sentence.class);
                System.out.println("  in " + m.getName() + ", of \"" + sentence.of() + "\": " + sentence.says());
            }
        }
        System.out.println(all.size() - failed + " of " + all.size() + " tests passed");
        if (failed != 0 || all.size() < Math.max(1, names.length)) {
            System.exit(1);
        }
    }

    private static List<Method> named(List<Method> all, String[] names) {
        List<Method> found = new ArrayList<>();
        for (String name : names) {
            int before = found.size();
            for (Method m : all) {
                if (m.getName().equals(name)) {
                    found.add(m);
                }
            }
            if (found.size() == before) {
                System.out.println("there is no test " + name);
            }
        }
        return found;
    }

    private static boolean holds(Method test) {
        Due due = new Due();
        try {
            test.invoke(null, due);
        } catch (InvocationTargetException e) {
            System.out.println("ended by " + e.getCause());
            return false;
        } catch (IllegalAccessException e) {
            System.out.println("cannot be called: " + e);
            return false;
        }
        return due.wrong() == 0;
    }
}
