/** Promise 16 (count). */
public final class CountsTest {
    public static void main(String[] args) {
        countsTellAll();
        countRefuses();
        Check.finish();
    }

    private static void countsTellAll() {
        AidRows rows = new AidRows();
        rows.house(0, 0);
        rows.agree(0, 0, 0, 100, 23, 5);
        rows.ask(0, 4, 50);
        rows.ask(0, 2, 60);
        rows.ask(1, 1, 1);
        same("asked", rows, 0, 0, 2, 0, 0);
        rows.message(0, 0, 0, 4, 30);
        same("lent before it begins", rows, 0, 4, 1, 0, 0);
        rows.message(0, 0, 0, 4, 30);
        rows.message(1, 0, 0, 0, 0);
        same("repeated", rows, 0, 4, 1, 0, 2);
        rows.cut(0, true);
        rows.message(0, 0, 0, 0, 0);
        rows.message(0, 0, 5, 0, 0);
        rows.message(0, 0, 5, 0, 0);
        same("over a cut line", rows, 0, 4, 1, 3, 2);
        rows.end(0);
        rows.tick(60);
        same("given up", rows, 60, 3, 0, 3, 2);
        rows.tick(40);
        same("ended with the agreement", rows, 100, 0, 0, 3, 2);
    }

    private static void same(String what, AidRows rows, int... due) {
        for (int i = 0; i < due.length; i++) {
            Check.same(what + ": count(" + i + ")", rows.count(i), due[i]);
        }
    }

    private static void countRefuses() {
        AidRows rows = new AidRows();
        for (int what : new int[] {-1, 5, Integer.MIN_VALUE, Integer.MAX_VALUE}) {
            Check.unknown("what " + what, () -> rows.count(what));
        }
    }
}
