import java.lang.reflect.InvocationTargetException;
import java.lang.reflect.Method;
import java.util.HashMap;
import java.util.Map;
import java.util.Random;

/** Long runs of made-up calls, always the same ones, answered by the class and by the plain model. */
public final class ModelTest {
    private static final int RUNS = 1500;
    private static final int CALLS = 512;
    private static final int[] EDGES = {-1, 0, 1, 9, 10, 20, 21, 23, 24, 99, 100, 500, 501, 999, 1000, 1001,
        2000, 2001, 2323, 2400, 99_999, 100_000, Integer.MIN_VALUE, Integer.MAX_VALUE};
    private static final String[] MIX = {
        "house", "agree", "agree", "agree", "ask", "ask", "message", "message", "message", "message", "message",
        "seen", "tick", "tick", "cut", "end", "end", "askAt", "askAt", "askAt", "loanAt", "loanAt", "loanAt",
        "cost", "named", "hand", "handed", "count"};

    private final Random random;
    private final PlainModel model = new PlainModel();
    private final AidRows rows = new AidRows();
    private final int longestTick;
    private final int kinds;

    private ModelTest(long seed) {
        random = new Random(seed);
        longestTick = seed % 3 == 0 ? 2000 : seed % 3 == 1 ? 200 : 20;
        kinds = seed % 2 == 0 ? 1 : 3;
    }

    public static void main(String[] args) throws ReflectiveOperationException {
        Map<String, Method> ours = methodsOf(AidRows.class);
        Map<String, Method> theirs = methodsOf(PlainModel.class);
        for (int seed = 0; seed < RUNS; seed++) {
            new ModelTest(seed).run(seed, ours, theirs);
        }
        Check.finish();
    }

    private static Map<String, Method> methodsOf(Class<?> type) {
        Map<String, Method> methods = new HashMap<>();
        for (Method method : type.getMethods()) {
            methods.put(method.getName(), method);
        }
        return methods;
    }

    private void run(int seed, Map<String, Method> ours, Map<String, Method> theirs)
            throws ReflectiveOperationException {
        for (int i = 0; i < CALLS; i++) {
            String name = i < 4 ? "house" : i < 12 ? "agree" : MIX[random.nextInt(MIX.length)];
            Object[] arguments = arguments(name, ours.get(name).getParameterCount());
            String due = answer(theirs.get(name), model, arguments);
            String got = answer(ours.get(name), rows, arguments);
            if (!due.equals(got)) {
                Check.fail("run " + seed + ", call " + i + ": " + name + java.util.Arrays.toString(arguments)
                        + " answered " + got + ", due is " + due);
                return;
            }
        }
    }

    private static String answer(Method method, Object object, Object[] arguments)
            throws ReflectiveOperationException {
        try {
            return String.valueOf(method.invoke(object, arguments));
        } catch (InvocationTargetException e) {
            return "throws." + e.getCause().getClass().getSimpleName();
        }
    }

    private int to(int most) {
        return random.nextInt(most + 1);
    }

    /** Mostly what can be: one argument in some fifty is an edge or far outside. */
    private Object[] arguments(String name, int length) {
        int[] values = values(name);
        Object[] arguments = new Object[length];
        for (int i = 0; i < length; i++) {
            int value = to(49) == 0 ? EDGES[random.nextInt(EDGES.length)] : values[i];
            arguments[i] = name.equals("cut") && i == 1 ? (Object) (values[1] == 1) : (Object) value;
        }
        return arguments;
    }

    private int[] values(String name) {
        int now = model.count(0);
        switch (name) {
            case "house":
                return new int[] {to(9) / 3, to(20) * 50};
            case "agree":
                int from = Math.max(0, now - 20 + to(3 * longestTick));
                int hours = to(2) == 0 ? 100 * to(23) + to(23) : 23;
                return new int[] {to(5), to(kinds - 1), from, from + 1 + to(20 * longestTick), hours, 1 + to(19)};
            case "ask":
                return new int[] {to(kinds - 1), 1 + to(19), 1 + to(Math.min(499, longestTick))};
            case "message":
                return message();
            case "seen":
                return new int[] {to(5), to(60)};
            case "tick":
                return new int[] {1 + to(longestTick - 1)};
            case "cut":
                return new int[] {to(5), to(2) == 0 ? 1 : 0};
            case "end":
                return new int[] {to(99)};
            case "askAt":
                return new int[] {to(29), to(5)};
            case "loanAt":
                return new int[] {to(99), to(6)};
            case "cost":
                return new int[] {to(7)};
            case "named":
                return new int[] {100 * to(5) + to(20)};
            case "hand":
                return new int[] {to(99), to(5)};
            case "handed":
                return new int[] {to(99)};
            default:
                return new int[] {to(4)};
        }
    }

    /** Mostly from the house that an open ask is at, for else nearly all would be late. */
    private int[] message() {
        int ask = to(29);
        for (int i = 0; i < 30 && !isOpen(ask); i++) {
            ask = to(29);
        }
        int house = to(5);
        if (isOpen(ask) && to(9) > 0) {
            house = model.askAt(ask, 1);
        }
        int n = to(3) == 0 ? 0 : 1 + to(to(3) == 0 ? 19 : 4);
        return new int[] {ask, house, to(to(1) == 0 ? 999 : 60), n, to(to(1) == 0 ? 999 : 60)};
    }

    private boolean isOpen(int ask) {
        try {
            return model.askAt(ask, 0) == 0;
        } catch (IllegalArgumentException e) {
            return false;
        }
    }
}
