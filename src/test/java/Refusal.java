import java.util.Arrays;
import java.util.Set;
import java.util.TreeSet;
import java.util.function.Consumer;
import java.util.function.Supplier;

/** Calls that are refused, or of which next to nothing comes: what they throw, and that all else is as before. */
final class Refusal {
    private Refusal() {
    }

    static void unknown(Supplier<AidRows> scene, Consumer<AidRows> call) {
        refused(IllegalArgumentException.class, scene, call);
    }

    static void outside(Supplier<AidRows> scene, Consumer<AidRows> call) {
        refused(IndexOutOfBoundsException.class, scene, call);
    }

    static void notNow(Supplier<AidRows> scene, Consumer<AidRows> call) {
        refused(IllegalStateException.class, scene, call);
    }

    static void noRoom(Supplier<AidRows> scene, Consumer<AidRows> call) {
        refused(UnsupportedOperationException.class, scene, call);
    }

    private static void refused(Class<? extends RuntimeException> due, Supplier<AidRows> scene,
            Consumer<AidRows> call) {
        AidRows rows = scene.get();
        Check.refuses("the call", due, () -> call.accept(rows));
        changesOnly(scene, call);
    }

    /** The answers named here, and no others, are other ones behind the call. */
    static void changesOnly(Supplier<AidRows> scene, Consumer<AidRows> call, String... due) {
        Set<String> got = View.differences(scene, () -> behind(scene.get(), call));
        if (!got.equals(new TreeSet<>(Arrays.asList(due)))) {
            Check.fail("the call changes " + got + ", due is " + Arrays.toString(due));
        }
    }

    private static AidRows behind(AidRows rows, Consumer<AidRows> call) {
        try {
            call.accept(rows);
        } catch (RuntimeException e) {
            // Whether it is the right one is looked at elsewhere; here only what it leaves behind matters.
            return rows;
        }
        return rows;
    }
}
