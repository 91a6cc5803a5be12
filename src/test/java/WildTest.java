import java.lang.reflect.InvocationTargetException;
import java.lang.reflect.Method;
import java.lang.reflect.Modifier;
import java.util.Arrays;
import java.util.Comparator;
import java.util.List;
import java.util.Random;
import java.util.function.Supplier;

/**
 * Rules 6, 7 and 13 of LANGUAGE.md: whatever the arguments and the state, also far behind the 512th call, a call throws
 * nothing but what its face names, and the same calls on another object answer the same.
 */
public final class WildTest {
    private static final int RUNS = 240;
    private static final int CALLS = 3_000;
    private static final int[] EDGES = {0, 1, 7, 8, 9, 10, 20, 23, 29, 30, 31, 32, 59, 60, 63, 64, 99, 100, 500, 799, 800,
        999, 1000, 1440, 2000, 2323, 2400, 99_999, 100_000, 1 << 16, 1 << 30, Integer.MAX_VALUE};

    /** Wild calls alone seldom fill anything, so most runs begin where there is much already. */
    private static final List<Supplier<AidRows>> BEGINNINGS = List.of(
            AidRows::new, Scene::busy, () -> Scene.houses(8), () -> Scene.agreements(30), () -> Scene.asks(30),
            () -> Scene.loans(98), () -> Scene.loans(100), () -> Scene.asked(20), WildTest::agreementsOver,
            WildTest::nearTheEndOfTime);

    private final Random random;
    private final AidRows rows;
    private final AidRows twin;
    /** How large most arguments are: small ones meet what is there, large ones the edges. */
    private final int usual;

    private WildTest(int seed) {
        random = new Random(seed);
        Supplier<AidRows> beginning = BEGINNINGS.get(seed / 4 % BEGINNINGS.size());
        rows = beginning.get();
        twin = beginning.get();
        usual = new int[] {4, 10, 30, 120}[seed % 4];
    }

    public static void main(String[] args) throws ReflectiveOperationException {
        List<Method> face = Arrays.stream(AidRows.class.getDeclaredMethods())
                .filter(method -> Modifier.isPublic(method.getModifiers()))
                .sorted(Comparator.comparing(Method::getName)).toList();
        for (int seed = 0; seed < RUNS; seed++) {
            new WildTest(seed).run(seed, face);
        }
        Check.finish();
    }

    /** Asks that wait on at houses whose agreements no longer hold. */
    private static AidRows agreementsOver() {
        AidRows rows = Scene.houses(3);
        for (int house = 0; house < 3; house++) {
            rows.agree(house, house, 0, 5, Scene.ALL_DAY, 20);
            rows.ask(house, 20, 500);
        }
        rows.tick(5);
        return rows;
    }

    private static AidRows nearTheEndOfTime() {
        AidRows rows = Scene.lent(20, 999);
        Scene.tickTo(rows, Scene.LAST_MINUTE - 10);
        return rows;
    }

    private void run(int seed, List<Method> face) throws ReflectiveOperationException {
        for (int i = 0; i < CALLS; i++) {
            Method method = face.get(random.nextInt(face.size()));
            Object[] arguments = arguments(method);
            String told = "run " + seed + ", call " + i + ": " + method.getName() + Arrays.toString(arguments);
            Object answer = answer(told, method, rows, arguments);
            Object again = answer(told, method, twin, arguments);
            if (!String.valueOf(answer).equals(String.valueOf(again))) {
                Check.fail(told + " answered " + answer + " and, by another object, " + again);
                return;
            }
        }
    }

    private Object[] arguments(Method method) {
        Object[] arguments = new Object[method.getParameterCount()];
        for (int i = 0; i < arguments.length; i++) {
            arguments[i] = method.getParameterTypes()[i] == boolean.class ? (Object) random.nextBoolean() : (Object) wild();
        }
        return arguments;
    }

    private int wild() {
        int kind = random.nextInt(60);
        if (kind == 0) {
            return random.nextInt();
        }
        if (kind <= 4) {
            int edge = EDGES[random.nextInt(EDGES.length)];
            return random.nextBoolean() ? edge : ~edge;
        }
        return random.nextInt(usual);
    }

    private static Object answer(String told, Method method, AidRows object, Object[] arguments)
            throws ReflectiveOperationException {
        try {
            return method.invoke(object, arguments);
        } catch (InvocationTargetException e) {
            Class<?> thrown = e.getCause().getClass();
            if (!Arrays.asList(method.getExceptionTypes()).contains(thrown)) {
                Check.fail(told + " throws " + e.getCause());
            }
            return thrown;
        }
    }
}
