import java.lang.reflect.InvocationTargetException;
import java.lang.reflect.Method;
import java.util.Arrays;
import java.util.Comparator;

/** Counts answers that are not as due, and feeds texts. */
final class Check {
    private static int wrong = 0;
    private static int asked = 0;

    private Check() { }

    static void due(String call, long got, long want) {
        asked++;
        if (got != want) {
            wrong++;
            if (wrong <= 50) {
                System.out.println(call + " answered " + got + ", due is " + want);
            }
        }
    }

    static void due(String call, boolean got, boolean want) {
        due(call, got ? 1 : 0, want ? 1 : 0);
    }

    static boolean anyWrong() {
        return wrong > 0;
    }

    static void finish(String name) {
        System.out.println(name + ": " + asked + " answers, " + wrong + " not as due");
        if (wrong != 0 || asked == 0) {
            System.exit(1);
        }
    }

    /**
     * Runs every method without parameters whose name is this word, a number and what it is about; there
     * must be one at least for each number from 1 on.
     */
    static void runAll(Class<?> tests, String word, int numbers) throws IllegalAccessException {
        Method[] methods = tests.getDeclaredMethods();
        Arrays.sort(methods, Comparator.comparing(Method::getName));
        boolean[] has = new boolean[numbers + 1];
        for (Method m : methods) {
            if (m.getName().matches(word + "[0-9]+[A-Z].*") && m.getParameterCount() == 0) {
                has[Integer.parseInt(m.getName().substring(word.length()).split("[A-Z]")[0])] = true;
                run(m);
            }
        }
        for (int n = 1; n <= numbers; n++) {
            due(word + " " + n + " has a test", has[n], true);
        }
    }

    private static void run(Method test) throws IllegalAccessException {
        int before = asked;
        int wrongBefore = wrong;
        try {
            test.invoke(null);
        } catch (InvocationTargetException e) {
            e.getCause().printStackTrace(System.out);
            wrong++;
        }
        due(test.getName() + " asks something", asked > before, true);
        if (wrong > wrongBefore) {
            System.out.println("FAILED: " + test.getName());
        }
    }

    /** Puts a text behind the TAPE; only the last twenty bytes may be cut by end. */
    static void write(OwnedByTwos town, String text) {
        int length = town.count(10) + text.length();
        for (int i = 0; i < text.length(); i += 20) {
            town.feed(four(text, i), four(text, i + 4), four(text, i + 8), four(text, i + 12), four(text, i + 16));
        }
        town.end(length);
    }

    static int four(String text, int from) {
        int number = 0;
        for (int i = from; i < from + 4; i++) {
            number = number << 8 | (i < text.length() ? text.charAt(i) : 0);
        }
        return number;
    }

    static int law(OwnedByTwos town, String text) {
        write(town, text);
        return town.law();
    }
}
