/** The objects that the tests of single cases begin with. */
final class Scene {
    static final int ALL_DAY = 23;
    static final int LAST_MINUTE = 99_999;
    /** Kind of the one open ask of {@link #loans(int)}. */
    static final int SPARE_KIND = 9;
    /** The number of that ask, where there are 81 loans or more. */
    static final int SPARE_ASK = 5;

    private Scene() {
    }

    /** Houses of rank 5 and price 60, without agreements. */
    static AidRows houses(int n) {
        AidRows rows = new AidRows();
        for (int i = 0; i < n; i++) {
            rows.house(5, 60);
        }
        return rows;
    }

    /** Such houses, each with an agreement (of the house's number) for kind 0, at all times, of 20 units. */
    static AidRows lenders(int n) {
        AidRows rows = houses(n);
        for (int i = 0; i < n; i++) {
            rows.agree(i, 0, 0, LAST_MINUTE, ALL_DAY, 20);
        }
        return rows;
    }

    /** One lender and an ask 0 at it, for so many units, that waits for 100 minutes. */
    static AidRows asked(int units) {
        AidRows rows = lenders(1);
        rows.ask(0, units, 100);
        return rows;
    }

    /** One lender whose ask 0 for so many units is filled by loans that begin in so many minutes. */
    static AidRows lent(int units, int minutes) {
        AidRows rows = asked(units);
        rows.message(0, 0, 0, units, minutes);
        return rows;
    }

    /**
     * Something of everything, at minute 10: asks 0 (filled), 1 and 3 (open, at house 1) and 2 (given up); loans 0, 2
     * and 3 are lent, 1 has ended; call 5 is with house 0; the line of house 2 is cut.
     */
    static AidRows busy() {
        AidRows rows = new AidRows();
        rows.house(5, 60);
        rows.house(7, 100);
        rows.house(5, 0);
        rows.agree(0, 0, 0, 1000, ALL_DAY, 5);
        rows.agree(1, 0, 0, 500, ALL_DAY, 3);
        rows.agree(2, 0, 0, LAST_MINUTE, 2300, 20);
        rows.agree(1, 1, 0, 50, ALL_DAY, 2);
        rows.ask(0, 4, 30);
        rows.message(0, 1, 0, 3, 20);
        rows.message(0, 0, 0, 1, 0);
        rows.ask(0, 10, 100);
        rows.ask(3, 1, 5);
        rows.ask(1, 2, 40);
        rows.message(1, 1, 1, 1, 0);
        rows.message(0, 1, 1, 0, 0);
        rows.message(2, 0, 2, 1, 0);
        rows.tick(10);
        rows.end(1);
        rows.hand(5, 0);
        rows.cut(2, true);
        rows.message(1, 2, 3, 1, 0);
        return rows;
    }

    /** A house with so many agreements of one minute each for kind 9, from minute 0 on. */
    static AidRows agreements(int n) {
        AidRows rows = houses(1);
        for (int i = 0; i < n; i++) {
            rows.agree(0, 9, i, i + 1, ALL_DAY, 1);
        }
        return rows;
    }

    /** So many asks, every second one at a lender and every second one given up. */
    static AidRows asks(int n) {
        AidRows rows = lenders(1);
        for (int i = 0; i < n; i++) {
            rows.ask(i % 2, 1, 500);
        }
        return rows;
    }

    /** So many loans (up to 100) of house 0, none ended, and behind their asks one more that waits for 20 units. */
    static AidRows loans(int n) {
        AidRows rows = houses(1);
        rows.agree(0, SPARE_KIND, 0, LAST_MINUTE, ALL_DAY, 20);
        for (int kind = 0; 20 * kind < n; kind++) {
            int units = Math.min(20, n - 20 * kind);
            rows.agree(0, kind, 0, LAST_MINUTE, ALL_DAY, 20);
            rows.ask(kind, units, 500);
            rows.message(kind, 0, kind, units, 0);
        }
        rows.ask(SPARE_KIND, 20, 500);
        return rows;
    }

    static void tickTo(AidRows rows, int minute) {
        for (int now = rows.count(0); now < minute; now = rows.count(0)) {
            rows.tick(Math.min(2000, minute - now));
        }
    }

    /** 1 when an ask of kind 0 that is made at a minute finds house 0 by an agreement of these minutes and hours. */
    static int holds(int from, int to, int hours, int minute) {
        AidRows rows = houses(1);
        rows.agree(0, 0, from, to, hours, 1);
        tickTo(rows, minute);
        return finds(rows, 0);
    }

    /** 1 when an ask of a kind that is made now finds a house. */
    static int finds(AidRows rows, int kind) {
        return rows.askAt(rows.ask(kind, 1, 1), 1) >= 0 ? 1 : 0;
    }
}
