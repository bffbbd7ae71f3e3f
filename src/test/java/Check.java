import java.lang.reflect.InvocationTargetException;
import java.lang.reflect.Method;
import java.util.Arrays;
import java.util.Comparator;

/** What the tests share: they count wrong answers, print them, and end with exit code 1 if any. */
final class Check {
    interface Call {
        long answer();
    }

    interface Act {
        void run();
    }

    private static int asked = 0;
    private static int wrong = 0;
    /** The test that runs, as a beginning for what is printed of it. */
    private static String running = "";

    private Check() {}

    /** Runs each method that is named after a section of the document: none is forgotten. */
    static void each(Class<?> tests) {
        Method[] methods = tests.getDeclaredMethods();
        Arrays.sort(methods, Comparator.comparing(Method::getName));
        int run = 0;
        for (Method method : methods) {
            if (method.getName().matches("(whatItIs|terms|promise|notPromised).*")) {
                running = method.getName() + ": ";
                same("ends", "without an exception", endOf(method));
                run++;
            }
        }
        running = "";
        System.out.println(run + " tests");
    }

    private static String endOf(Method method) {
        try {
            method.invoke(null);
            return "without an exception";
        } catch (InvocationTargetException e) {
            return String.valueOf(e.getCause());
        } catch (IllegalAccessException e) {
            return String.valueOf(e);
        }
    }

    static void due(String what, long want, Call call) {
        String got;
        try {
            got = Long.toString(call.answer());
        } catch (RuntimeException e) {
            got = e.getClass().getName();
        }
        same(what, Long.toString(want), got);
    }

    static void holds(String what, boolean want, boolean got) {
        same(what, Boolean.toString(want), Boolean.toString(got));
    }

    static void argument(String what, Act act) {
        same(what, IllegalArgumentException.class.getName(), thrownBy(act));
    }

    static void state(String what, Act act) {
        same(what, IllegalStateException.class.getName(), thrownBy(act));
    }

    static void same(String what, String want, String got) {
        asked++;
        if (!want.equals(got)) {
            wrong++;
            System.out.println(running + what + ": got " + got + ", due is " + want);
        }
    }

    static void end() {
        System.out.println(asked + " answers asked, " + wrong + " of them wrong");
        if (wrong != 0 || asked == 0) {
            System.exit(1);
        }
    }

    private static String thrownBy(Act act) {
        try {
            act.run();
        } catch (RuntimeException e) {
            return e.getClass().getName();
        }
        return "nothing thrown";
    }
}
