/** Promises 14 (hand) and 15 (handed). */
public final class HandingTest {
    private static final int[] WRONG_CALLS = {-1, 100, Integer.MIN_VALUE, Integer.MAX_VALUE};

    public static void main(String[] args) {
        callsAreHandedOnce();
        cutLineRefuses();
        unknownIsRefused();
        Check.finish();
    }

    private static void callsAreHandedOnce() {
        AidRows rows = new AidRows();
        rows.house(0, 0);
        rows.house(0, 0);
        rows.hand(0, 1);
        rows.hand(99, 0);
        Check.same("the first call", rows.handed(0), 1);
        Check.same("the last call", rows.handed(99), 0);
        Check.same("another call", rows.handed(50), -1);
        Check.notNow("once to another house", () -> rows.hand(0, 0));
        Check.notNow("once to the same house", () -> rows.hand(0, 1));
        Check.same("it stays", rows.handed(0), 1);
    }

    private static void cutLineRefuses() {
        AidRows rows = new AidRows();
        rows.house(0, 0);
        rows.cut(0, true);
        Check.notNow("cut", () -> rows.hand(3, 0));
        Check.same("not handed", rows.handed(3), -1);
        rows.cut(0, false);
        rows.hand(3, 0);
        rows.cut(0, true);
        Check.same("handed before the cut", rows.handed(3), 0);
    }

    private static void unknownIsRefused() {
        AidRows rows = new AidRows();
        Check.unknown("no house yet", () -> rows.hand(0, 0));
        rows.house(0, 0);
        rows.cut(0, true);
        for (int call : WRONG_CALLS) {
            Check.unknown("hand " + call, () -> rows.hand(call, 0));
            Check.unknown("handed " + call, () -> rows.handed(call));
        }
        for (int house : new int[] {-1, 1, 8, Integer.MIN_VALUE, Integer.MAX_VALUE}) {
            Check.unknown("house " + house, () -> rows.hand(0, house));
        }
    }
}
