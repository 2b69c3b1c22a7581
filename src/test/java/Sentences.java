import java.lang.reflect.InvocationTargetException;
import java.lang.reflect.Method;
import java.util.ArrayList;
import java.util.Arrays;
import java.util.Comparator;
import java.util.List;

/** Runs the tests of a class that hold a sentence of the document each. */
final class Sentences {
    private Sentences() {
    }

    /** The tests of a class, always in the same order. */
    static List<Method> testsOf(Class<?> tests) {
        List<Method> found = new ArrayList<>();
        for (Method method : tests.getDeclaredMethods()) {
            if (method.isAnnotationPresent(Holds.class)) {
                method.setAccessible(true);
                found.add(method);
            }
        }
        found.sort(Comparator.comparing(Method::getName));
        return found;
    }

    /** Runs all tests of a class; returns the names of those that had a wrong answer. */
    static List<String> runAll(Class<?> tests) {
        List<String> failed = new ArrayList<>();
        for (Method test : testsOf(tests)) {
            if (!isPassed(test)) {
                failed.add(test.getName());
            }
        }
        return failed;
    }

    private static boolean isPassed(Method test) {
        Holds holds = test.getAnnotation(Holds.class);
        Answers.begin(test.getName() + ", which holds of " + placeOf(holds) + " \"" + holds.sentence() + "\"");
        int comparedBefore = Answers.compared();
        int wrongBefore = Answers.wrong();
        try {
            test.invoke(null);
        } catch (InvocationTargetException e) {
            Answers.due("the test", "throws " + e.getCause(), "ends");
        } catch (IllegalAccessException e) {
            Answers.due("the test", "can't be run", "ends");
        }
        Answers.due("the test compares answers", Answers.compared() > comparedBefore, true);
        Answers.begin("");
        return Answers.wrong() == wrongBefore;
    }

    static String placeOf(Holds holds) {
        String promises = "promise " + Arrays.toString(holds.promise());
        return holds.section().isEmpty() ? promises : promises + " and section " + holds.section();
    }
}
