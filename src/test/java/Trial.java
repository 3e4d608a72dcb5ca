import java.lang.reflect.InvocationTargetException;
import java.lang.reflect.Method;
import java.util.Arrays;
import java.util.Comparator;
import java.util.function.Predicate;
import java.util.function.Supplier;

/** Runs the tests of a class, which are its methods named after a promise, and counts what is not as due. */
abstract class Trial {
    static final int NONE = -1;
    private static String current = "";
    private static int tests = 0;
    private static int checks = 0;
    private static int wrong = 0;

    /** Whether a town, made for this alone, takes a number. */
    interface Taker {
        boolean takes(long number);
    }

    static void due(String call, long got, long want) {
        due(call, Long.toString(got), Long.toString(want));
    }

    static void due(String call, boolean got, boolean want) {
        due(call, Boolean.toString(got), Boolean.toString(want));
    }

    static void due(String call, String got, String want) {
        checks++;
        if (!got.equals(want)) {
            fault(call + " answered " + got + ", due is " + want);
        }
    }

    private static void fault(String what) {
        wrong++;
        System.out.println(current + ": " + what);
    }

    /** Both ends and their neighbours, what a long can hold at most, and what only its lower half makes fit. */
    static void takesJust(String call, long least, long most, Taker taker) {
        for (long number : new long[] {least, least + 1, most - 1, most}) {
            due(call + " of " + number, taker.takes(number), true);
        }
        long turn = 1L << 32;
        for (long number : new long[] {least - 1, most + 1, Long.MIN_VALUE, Long.MAX_VALUE,
                Long.MIN_VALUE + most, turn + least, turn + most, most - turn}) {
            due(call + " of " + number, taker.takes(number), false);
        }
    }

    /** The same for a number that is an int: a district, a place, a year. */
    static void takesJustInts(String call, int least, int most, Taker taker) {
        for (int number = least; number <= most; number++) {
            due(call + " of " + number, taker.takes(number), true);
        }
        for (int number : new int[] {least - 1, most + 1, Integer.MIN_VALUE, Integer.MAX_VALUE,
                Integer.MIN_VALUE + most}) {
            due(call + " of " + number, taker.takes(number), false);
        }
    }

    /** A call that is refused, or but a question, leaves every town as its twin is that had no such call. */
    static void changesNothing(String call, Predicate<SiteChoice> isAsDue) {
        for (Supplier<SiteChoice> town : Towns.all()) {
            changesNothing(call, town, isAsDue);
        }
    }

    static void changesNothing(String call, Supplier<SiteChoice> town, Predicate<SiteChoice> isAsDue) {
        SiteChoice asked = town.get();
        SiteChoice twin = town.get();
        due(call + " answering as due", isAsDue.test(asked), true);
        due("all after " + call, Towns.askAll(asked), Towns.askAll(twin));
    }

    static void runAll(Class<?> testClass) {
        Method[] methods = testClass.getDeclaredMethods();
        Arrays.sort(methods, Comparator.comparing(Method::getName));
        for (Method method : methods) {
            if (method.getName().matches("promise[0-9][0-9][A-Z].*")) {
                run(testClass, method);
            }
        }
        current = testClass.getSimpleName();
        if (tests == 0) {
            fault("has no test");
        }
        System.out.println(current + ": " + tests + " tests, " + checks + " answers, " + wrong + " not as due");
        if (wrong != 0) {
            System.exit(1);
        }
    }

    private static void run(Class<?> testClass, Method method) {
        current = testClass.getSimpleName() + "." + method.getName();
        int before = checks;
        tests++;
        try {
            method.setAccessible(true);
            method.invoke(null);
        } catch (InvocationTargetException e) {
            fault("threw " + e.getCause());
        } catch (IllegalAccessException e) {
            fault("can't be run: " + e);
        }
        if (checks == before) {
            fault("looks at nothing");
        }
    }
}
