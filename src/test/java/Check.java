import java.lang.reflect.InvocationTargetException;
import java.lang.reflect.Method;
import java.util.Arrays;
import java.util.Comparator;

/** Compares answers with those that are due and tells, at the end of a test, whether all were right. */
final class Check {
    private static int wrong = 0;
    private static String running = "";

    private Check() {
    }

    /**
     * Runs every method of a test class that takes nothing, each as a test of its own: one that breaks off does not
     * keep the others from running, and none can be forgotten in a list.
     */
    static void cases(String promise, Class<?> test) throws ReflectiveOperationException {
        Method[] methods = test.getDeclaredMethods();
        Arrays.sort(methods, Comparator.comparing(Method::getName));
        int ran = 0;
        for (Method method : methods) {
            if (method.getParameterCount() == 0 && method.getReturnType() == void.class && !method.isSynthetic()) {
                running = promise + ", " + method.getName() + ": ";
                runCase(method);
                ran++;
            }
        }
        running = "";
        if (ran == 0) {
            fail(promise + " has no case");
        }
        finish();
    }

    private static void runCase(Method method) throws ReflectiveOperationException {
        try {
            method.invoke(null);
        } catch (InvocationTargetException e) {
            fail("breaks off with " + e.getCause());
        }
    }

    static void same(String what, int got, int due) {
        if (got != due) {
            fail(what + " answered " + got + ", due is " + due);
        }
    }

    /** The very class is asked for: what the machine throws is often of a class below the right one. */
    static void refuses(String what, Class<? extends RuntimeException> due, Runnable call) {
        try {
            call.run();
        } catch (RuntimeException e) {
            if (e.getClass() != due) {
                fail(what + " throws " + e.getClass().getSimpleName() + ", due is " + due.getSimpleName());
            }
            return;
        }
        fail(what + " throws nothing, due is " + due.getSimpleName());
    }

    static void unknown(String what, Runnable call) {
        refuses(what, IllegalArgumentException.class, call);
    }

    static void outside(String what, Runnable call) {
        refuses(what, IndexOutOfBoundsException.class, call);
    }

    static void notNow(String what, Runnable call) {
        refuses(what, IllegalStateException.class, call);
    }

    static void noRoom(String what, Runnable call) {
        refuses(what, UnsupportedOperationException.class, call);
    }

    /** All six answers about an ask at once. */
    static void ask(String what, AidRows rows, int ask, int... due) {
        for (int i = 0; i < due.length; i++) {
            same(what + ": askAt(" + ask + ", " + i + ")", rows.askAt(ask, i), due[i]);
        }
    }

    /** All seven answers about a loan at once. */
    static void loan(String what, AidRows rows, int loan, int... due) {
        for (int i = 0; i < due.length; i++) {
            same(what + ": loanAt(" + loan + ", " + i + ")", rows.loanAt(loan, i), due[i]);
        }
    }

    static void fail(String what) {
        wrong++;
        System.out.println(running + what);
    }

    static void finish() {
        if (wrong != 0) {
            System.out.println(wrong + " answers are not as due");
            System.exit(1);
        }
    }
}
