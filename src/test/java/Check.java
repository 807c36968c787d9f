import java.lang.reflect.InvocationTargetException;
import java.lang.reflect.Method;
import java.lang.reflect.Modifier;
import java.util.Arrays;
import java.util.Comparator;

/** Counts the answers that are not as due, and prints them. */
final class Check {
    private static int asked = 0;
    private static int wrong = 0;

    private Check() {
    }

    interface Call {
        int answer();
    }

    static void same(String what, long got, long due) {
        asked++;
        if (got != due) {
            wrong++;
            System.out.println(what + " answered " + got + ", due is " + due);
        }
    }

    static void sameText(String what, String got, String due) {
        asked++;
        if (!got.equals(due)) {
            wrong++;
            System.out.println(what + " answered " + got + ", due is " + due);
        }
    }

    static void yes(String what, boolean holds) {
        same(what, holds ? 1 : 0, 1);
    }

    /** The call throws an exception of just this class. */
    static void refuses(String what, Class<? extends RuntimeException> due, Runnable call) {
        asked++;
        String got = nameOfThrown(call);
        if (!got.equals(due.getName())) {
            wrong++;
            System.out.println(what + " threw " + got + ", due is " + due.getName());
        }
    }

    static String nameOfThrown(Runnable call) {
        try {
            call.run();
        } catch (RuntimeException e) {
            return e.getClass().getName();
        }
        return "nothing";
    }

    /** Runs each test of a class: its static methods without parameters that are not private. */
    static void runAll(Class<?> tests) throws ReflectiveOperationException {
        Method[] methods = tests.getDeclaredMethods();
        Arrays.sort(methods, Comparator.comparing(Method::getName));
        int run = 0;
        for (Method m : methods) {
            boolean isTest = Modifier.isStatic(m.getModifiers()) && m.getParameterCount() == 0
                    && !Modifier.isPrivate(m.getModifiers()) && !m.isSynthetic();
            if (isTest) {
                run++;
                runOne(tests.getSimpleName() + "." + m.getName(), m);
            }
        }
        yes(tests.getSimpleName() + " has tests", run > 0);
        end(tests.getSimpleName() + ", " + run + " tests");
    }

    private static void runOne(String name, Method test) throws ReflectiveOperationException {
        int askedBefore = asked;
        int wrongBefore = wrong;
        try {
            test.invoke(null);
        } catch (InvocationTargetException e) {
            wrong++;
            System.out.println("threw " + e.getCause());
        }
        yes(name + " asks something", asked > askedBefore);
        if (wrong > wrongBefore) {
            System.out.println("FAILED: " + name);
        }
    }

    static void end(String name) {
        System.out.println(name + ": " + asked + " answers, " + wrong + " not as due");
        if (wrong != 0) {
            System.exit(1);
        }
    }
}
