import java.util.ArrayList;
import java.util.List;
import java.util.Set;
import java.util.TreeSet;
import java.util.function.Supplier;
import java.util.function.ToIntFunction;

/**
 * All that can be told of an object: every answer now, every answer 600 minutes later, and what calls that change it
 * would answer. Nothing is promised of an object after 512 calls, so the answers come from many objects made alike.
 */
final class View {
    private static final int AT_ONCE = 200;
    private static final int LATER = 600;
    private static final List<String> NAMES = new ArrayList<>();
    private static final List<ToIntFunction<AidRows>> QUESTIONS = new ArrayList<>();
    private static final List<String> PROBE_NAMES = new ArrayList<>();
    private static final List<ToIntFunction<AidRows>> PROBES = new ArrayList<>();

    static {
        for (int what = 0; what < 5; what++) {
            int w = what;
            question("count(" + w + ")", rows -> rows.count(w));
        }
        for (int call = 0; call < 100; call++) {
            int c = call;
            question("handed(" + c + ")", rows -> rows.handed(c));
        }
        for (int name = 0; name < 800; name++) {
            int n = name;
            question("named(" + n + ")", rows -> rows.named(n));
        }
        for (int house = 0; house < 8; house++) {
            int h = house;
            question("cost(" + h + ")", rows -> rows.cost(h));
            for (int number = 0; number < 1000; number++) {
                int n = number;
                question("seen(" + h + ", " + n + ")", rows -> rows.seen(h, n));
            }
        }
        for (int ask = 0; ask < 30; ask++) {
            for (int what = 0; what < 6; what++) {
                int a = ask;
                int w = what;
                question("askAt(" + a + ", " + w + ")", rows -> rows.askAt(a, w));
            }
        }
        for (int loan = 0; loan < 100; loan++) {
            for (int what = 0; what < 7; what++) {
                int l = loan;
                int w = what;
                question("loanAt(" + l + ", " + w + ")", rows -> rows.loanAt(l, w));
            }
        }
        for (int minutes : new int[] {1, 29, 30, 31, 39, 40, 89, 90, 91, 99, 100, 499, 500, 2000}) {
            probe("tick(" + minutes + ")", rows -> rows.tick(minutes));
        }
        for (int house = 0; house < 8; house++) {
            int h = house;
            probe("line of " + h, rows -> cutTo(rows, h));
            probe("agreement of " + h, rows -> rows.agree(h, 8, 0, 9, 23, 1));
            probe("agreement of " + h + " for kind 0", rows -> rows.agree(h, 0, 1000, 1001, 23, 1));
        }
        probe("next house", rows -> rows.house(1, 1));
        probe("next ask", rows -> rows.ask(0, 1, 1));
    }

    private View() {
    }

    private static void question(String name, ToIntFunction<AidRows> call) {
        NAMES.add(name);
        QUESTIONS.add(call);
    }

    private static void probe(String name, ToIntFunction<AidRows> call) {
        PROBE_NAMES.add(name);
        PROBES.add(call);
    }

    private static int cutTo(AidRows rows, int house) {
        rows.cut(house, true);
        return 1;
    }

    /** The names of all answers that are not the same for two objects. */
    static Set<String> differences(Supplier<AidRows> one, Supplier<AidRows> other) {
        Set<String> names = new TreeSet<>();
        compare(names, NAMES, answers(one), answers(other));
        compare(names, NAMES, answers(() -> later(one.get())), answers(() -> later(other.get())));
        compare(names, PROBE_NAMES, probes(one), probes(other));
        return names;
    }

    private static void compare(Set<String> names, List<String> all, List<String> one, List<String> other) {
        for (int i = 0; i < all.size(); i++) {
            if (!one.get(i).equals(other.get(i))) {
                names.add(all.get(i));
            }
        }
    }

    private static AidRows later(AidRows rows) {
        if (rows.count(0) + LATER <= Scene.LAST_MINUTE) {
            rows.tick(LATER);
        }
        return rows;
    }

    private static List<String> answers(Supplier<AidRows> made) {
        List<String> answers = new ArrayList<>();
        AidRows rows = null;
        for (int i = 0; i < QUESTIONS.size(); i++) {
            if (i % AT_ONCE == 0) {
                rows = made.get();
            }
            answers.add(answer(rows, QUESTIONS.get(i)));
        }
        return answers;
    }

    private static List<String> probes(Supplier<AidRows> made) {
        List<String> answers = new ArrayList<>();
        for (ToIntFunction<AidRows> probe : PROBES) {
            answers.add(answer(made.get(), probe));
        }
        return answers;
    }

    private static String answer(AidRows rows, ToIntFunction<AidRows> call) {
        try {
            return Integer.toString(call.applyAsInt(rows));
        } catch (RuntimeException e) {
            return e.getClass().getSimpleName();
        }
    }
}
