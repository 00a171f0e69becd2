import java.lang.reflect.InvocationTargetException;
import java.lang.reflect.Method;
import java.util.Comparator;
import java.util.List;
import java.util.stream.Stream;

/** Runs every test of a class that stands for a sentence, and prints the sentence if it is broken. */
final class Sentences {
    private Sentences() {
    }

    static void runAll(Class<?> tests, Checks checks) {
        List<Method> all = Stream.of(tests.getDeclaredMethods()).filter(m -> m.isAnnotationPresent(Says.class))
                .sorted(Comparator.comparing(Method::getName)).toList();
        for (Method test : all) {
            int before = checks.wrong();
            run(test, checks);
            if (checks.wrong() > before) {
                System.out.println("BROKEN (" + test.getName() + "): " + test.getAnnotation(Says.class).value());
            }
        }
        System.out.println(all.size() + " sentences");
        checks.end();
    }

    /** What a test throws by itself must not keep the others from running. */
    private static void run(Method test, Checks checks) {
        try {
            test.setAccessible(true);
            test.invoke(null);
        } catch (InvocationTargetException e) {
            checks.same(test.getName(), "threw " + e.getCause(), "threw nothing");
        } catch (IllegalAccessException e) {
            checks.same(test.getName(), "can't be run", "can be run");
        }
    }
}
