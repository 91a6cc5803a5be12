/** Promises 4 (ask) and 10 (askAt). */
public final class AsksTest {
    private static final int ALL_DAY = 23;

    public static void main(String[] args) {
        asksAreNumbered();
        askRefuses();
        askGoesByRankThenNumber();
        askWithoutHouseIsGivenUp();
        fullAgreementStillDraws();
        lostOnACutLine();
        lostIsSettledAsItComes();
        neverTwiceAtAHouse();
        askAtRefuses();
        Check.finish();
    }

    private static void asksAreNumbered() {
        AidRows rows = new AidRows();
        for (int i = 0; i < 30; i++) {
            Check.same("ask", rows.ask(i % 10, 1 + i % 20, 500), i);
        }
        Check.noRoom("the 31st", () -> rows.ask(0, 1, 1));
        Check.unknown("the kind comes before no room", () -> rows.ask(10, 1, 1));
        Check.outside("units come before no room", () -> rows.ask(0, 0, 1));
    }

    private static void askRefuses() {
        AidRows rows = new AidRows();
        for (int kind : new int[] {-1, 10, Integer.MIN_VALUE, Integer.MAX_VALUE}) {
            Check.unknown("kind " + kind, () -> rows.ask(kind, 0, 0));
        }
        for (int units : new int[] {0, 21, -1, Integer.MIN_VALUE, Integer.MAX_VALUE}) {
            Check.outside("units " + units, () -> rows.ask(0, units, 1));
        }
        for (int patience : new int[] {0, 501, -1, Integer.MIN_VALUE, Integer.MAX_VALUE}) {
            Check.outside("patience " + patience, () -> rows.ask(0, 1, patience));
        }
        Check.same("none of them stands", rows.ask(9, 20, 500), 0);
    }

    private static void askGoesByRankThenNumber() {
        AidRows rows = new AidRows();
        int[] ranks = {3, 7, 9, 7, 3};
        for (int i = 0; i < ranks.length; i++) {
            rows.house(ranks[i], 0);
        }
        for (int i = 0; i < ranks.length; i++) {
            rows.agree(i, i == 2 ? 5 : 4, 0, 99_999, ALL_DAY, 20);
        }
        rows.tick(7);
        int ask = rows.ask(4, 20, 10);
        int[] order = {1, 3, 0, 4};
        for (int i = 0; i < order.length; i++) {
            Check.ask("stop " + i, rows, ask, 0, order[i], 7 + 10 * i, 0, i + 1, 0);
            rows.tick(10);
        }
        Check.ask("given up", rows, ask, 2, -1, 0, 0, 4, 0);
    }

    private static void askWithoutHouseIsGivenUp() {
        AidRows rows = new AidRows();
        rows.house(9, 0);
        rows.agree(0, 1, 0, 100, ALL_DAY, 1);
        rows.agree(0, 2, 1, 100, ALL_DAY, 1);
        rows.agree(0, 3, 0, 100, 123, 1);
        Check.ask("no agreement for the kind", rows, rows.ask(0, 1, 5), 2, -1, 0, 0, 0, 0);
        Check.ask("agreement later", rows, rows.ask(2, 1, 5), 2, -1, 0, 0, 0, 0);
        Check.ask("agreement at other hours", rows, rows.ask(3, 1, 5), 2, -1, 0, 0, 0, 0);
        Check.ask("agreement now", rows, rows.ask(1, 1, 5), 0, 0, 0, 0, 1, 0);
        Check.same("one went on", rows.tick(5), 1);
        Check.ask("an ask that was given up stays so", rows, 1, 2, -1, 0, 0, 0, 0);
    }

    private static void fullAgreementStillDraws() {
        AidRows rows = new AidRows();
        rows.house(9, 0);
        rows.agree(0, 1, 0, 100, ALL_DAY, 1);
        rows.ask(1, 1, 5);
        Check.same("the unit is lent", rows.message(0, 0, 0, 1, 0), 1);
        Check.ask("full", rows, rows.ask(1, 1, 5), 0, 0, 0, 0, 1, 0);
    }

    private static void lostOnACutLine() {
        AidRows rows = new AidRows();
        rows.house(9, 0);
        rows.house(8, 0);
        rows.agree(0, 1, 0, 100, ALL_DAY, 5);
        rows.agree(1, 1, 0, 100, ALL_DAY, 5);
        rows.cut(0, true);
        int ask = rows.ask(1, 2, 5);
        Check.ask("lost", rows, ask, 0, 0, 0, 0, 1, 1);
        Check.same("its patience runs all the same", rows.tick(4), 0);
        Check.same("and ends", rows.tick(1), 1);
        Check.ask("at the next house", rows, ask, 0, 1, 5, 0, 2, 0);
        int second = rows.ask(1, 2, 5);
        rows.cut(0, false);
        Check.same("an answer counts all the same", rows.message(second, 0, 1, 2, 0), 1);
        Check.ask("filled is not lost", rows, second, 1, -1, 0, 2, 1, 0);
    }

    private static void lostIsSettledAsItComes() {
        AidRows rows = new AidRows();
        rows.house(9, 0);
        rows.agree(0, 1, 0, 100, ALL_DAY, 5);
        int whole = rows.ask(1, 2, 50);
        rows.cut(0, true);
        int lost = rows.ask(1, 2, 50);
        Check.same("came over a whole line", rows.askAt(whole, 5), 0);
        Check.same("came over a cut line", rows.askAt(lost, 5), 1);
        rows.cut(0, false);
        Check.same("whole again: not lost", rows.askAt(whole, 5), 0);
        Check.same("whole again: lost still", rows.askAt(lost, 5), 1);
        rows.tick(50);
        Check.ask("given up is not lost", rows, lost, 2, -1, 0, 0, 1, 0);
    }

    private static void neverTwiceAtAHouse() {
        AidRows rows = new AidRows();
        rows.house(9, 0);
        rows.house(1, 0);
        rows.agree(0, 1, 0, 10, ALL_DAY, 5);
        rows.agree(1, 1, 0, 99, ALL_DAY, 5);
        rows.agree(0, 1, 10, 99, ALL_DAY, 5);
        int ask = rows.ask(1, 2, 12);
        rows.tick(12);
        Check.ask("past its first house, which has a new agreement", rows, ask, 0, 1, 12, 0, 2, 0);
        rows.tick(12);
        Check.ask("given up", rows, ask, 2, -1, 0, 0, 2, 0);
    }

    private static void askAtRefuses() {
        AidRows rows = new AidRows();
        Check.unknown("no ask yet", () -> rows.askAt(0, 0));
        rows.ask(0, 1, 1);
        for (int ask : new int[] {-1, 1, 30, Integer.MIN_VALUE, Integer.MAX_VALUE}) {
            Check.unknown("ask " + ask, () -> rows.askAt(ask, 0));
        }
        for (int what : new int[] {-1, 6, Integer.MIN_VALUE, Integer.MAX_VALUE}) {
            Check.unknown("what " + what, () -> rows.askAt(0, what));
        }
    }
}
