import java.lang.reflect.InvocationTargetException;
import java.lang.reflect.Method;
import java.util.Arrays;
import java.util.Comparator;

/** Runs every test of a class that is marked with the sentence it is for. */
final class Sentences {
    private Sentences() {
    }

    static void run(Class<?> tests) throws IllegalAccessException {
        Method[] methods = tests.getDeclaredMethods();
        Arrays.sort(methods, Comparator.comparing(Method::getName));
        for (Method test : methods) {
            Sentence sentence = test.getAnnotation(Sentence.class);
            if (sentence != null && !holds(test)) {
                System.out.println("BROKEN: promise " + sentence.promise() + ", \"" + sentence.says()
                        + "\" (" + tests.getSimpleName() + "." + test.getName() + ")");
            }
        }
        Check.end(tests.getSimpleName());
    }

    private static boolean holds(Method test) throws IllegalAccessException {
        int wrong = Check.wrong();
        int looked = Check.looked();
        try {
            test.invoke(null);
        } catch (InvocationTargetException e) {
            Check.due(test.getName() + " ends", "throws." + e.getCause(), "without a throw");
        }
        if (Check.looked() == looked) {
            Check.due(test.getName() + " looks", "at nothing", "at some answer");
        }
        return Check.wrong() == wrong;
    }
}
