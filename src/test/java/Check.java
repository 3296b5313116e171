import java.lang.reflect.InvocationTargetException;
import java.lang.reflect.Method;
import java.util.Arrays;
import java.util.Comparator;

/** What the tests share: they count what is wrong, and end with exit code 1 if something was. */
final class Check {
    interface Call {
        long run();
    }

    private static int checks;
    private static int wrong;
    private static String test = "";

    private Check() {
    }

    static void that(String what, boolean holds) {
        checks++;
        if (!holds) {
            wrong++;
            System.out.println("wrong: " + test + what);
        }
    }

    static void answers(String what, long due, Call call) {
        String got = outcome(call);
        that(what + " answered " + got + ", due is " + due, got.equals(Long.toString(due)));
    }

    static void noSuch(String what, Call call) {
        refuses(what, "IndexOutOfBoundsException", call);
    }

    static void badArgument(String what, Call call) {
        refuses(what, "IllegalArgumentException", call);
    }

    static void badState(String what, Call call) {
        refuses(what, "IllegalStateException", call);
    }

    private static void refuses(String what, String exception, Call call) {
        String got = outcome(call);
        that(what + " answered " + got + ", due is throws." + exception, got.equals("throws." + exception));
    }

    /** The exact class counts: a subclass that the machine throws is not the one that is due. */
    static String outcome(Call call) {
        try {
            return Long.toString(call.run());
        } catch (RuntimeException e) {
            return "throws." + e.getClass().getSimpleName();
        }
    }

    /**
     * Runs every method whose name begins with "promise" and a number, so that none can be forgotten; each promise from
     * the first to the last must have one.
     */
    static void runPromises(Class<?> tests, int first, int last) {
        boolean[] tested = new boolean[last + 1];
        Method[] methods = tests.getDeclaredMethods();
        Arrays.sort(methods, Comparator.comparing(Method::getName));
        for (Method method : methods) {
            String number = method.getName().replaceAll("promise(\\d+)\\w*", "$1");
            if (!number.equals(method.getName())) {
                tested[Integer.parseInt(number)] = true;
                runOne(method);
            }
        }
        for (int promise = first; promise <= last; promise++) {
            that("promise " + promise + " has no test in " + tests.getSimpleName(), tested[promise]);
        }
        close(tests.getSimpleName());
    }

    private static void runOne(Method method) {
        test = method.getName() + ": ";
        try {
            method.invoke(null);
        } catch (InvocationTargetException e) {
            that("ended with " + e.getCause(), false);
        } catch (IllegalAccessException e) {
            that("could not be run", false);
        }
        test = "";
    }

    static void close(String name) {
        System.out.println(name + ": " + checks + " checks, " + wrong + " wrong");
        if (wrong != 0 || checks == 0) {
            System.exit(1);
        }
    }
}
