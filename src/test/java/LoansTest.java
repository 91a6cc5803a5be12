/** Promises 9 (end), 11 (loanAt), 12 (cost) and 13 (named). */
public final class LoansTest {
    private static final int ALL_DAY = 23;

    public static void main(String[] args) {
        loansTellAll();
        endEnds();
        endRefuses();
        begunHoursCost();
        endedBeforeItBeganCostsNothing();
        houseCostsAreSums();
        namesAreTheLowestFree();
        namesAcrossAgreements();
        namedOfNoName();
        loanAtAndCostRefuse();
        dearestCostFits();
        Check.finish();
    }

    /** Two houses of price 7 and 100; house 1 has an agreement of 4 units for kind 2 until minute 1000. */
    private static AidRows ready() {
        AidRows rows = new AidRows();
        rows.house(1, 7);
        rows.house(2, 100);
        rows.agree(0, 0, 0, 99_999, ALL_DAY, 20);
        rows.agree(1, 2, 0, 1000, ALL_DAY, 4);
        return rows;
    }

    private static void loansTellAll() {
        AidRows rows = ready();
        rows.tick(5);
        rows.ask(0, 1, 9);
        rows.ask(2, 4, 9);
        rows.message(1, 1, 0, 3, 20);
        for (int i = 0; i < 3; i++) {
            Check.loan("of house 1", rows, i, 1, 100 + i, 1, 1, 25, -1, 0);
        }
        rows.message(0, 0, 0, 1, 0);
        Check.loan("of house 0", rows, 3, 0, 0, 0, 0, 5, -1, 0);
        rows.tick(40);
        Check.loan("begun", rows, 0, 1, 100, 1, 1, 25, -1, 100);
    }

    private static void endEnds() {
        AidRows rows = ready();
        rows.ask(2, 4, 9);
        rows.message(0, 1, 0, 4, 0);
        rows.tick(30);
        rows.end(2);
        Check.loan("ended now", rows, 2, 1, 102, 0, 1, 0, 30, 100);
        Check.same("three are lent", rows.count(1), 3);
        rows.tick(970);
        Check.same("ended once", rows.loanAt(2, 5), 30);
        Check.same("the others with the agreement", rows.loanAt(3, 5), 1000);
        Check.same("the ask keeps what it was told", rows.askAt(0, 3), 4);
    }

    private static void endRefuses() {
        AidRows rows = ready();
        Check.unknown("no loan yet", () -> rows.end(0));
        rows.ask(2, 2, 9);
        rows.message(0, 1, 0, 2, 0);
        for (int loan : new int[] {-1, 2, 100, Integer.MIN_VALUE, Integer.MAX_VALUE}) {
            Check.unknown("loan " + loan, () -> rows.end(loan));
        }
        rows.end(0);
        Check.notNow("it has ended", () -> rows.end(0));
        rows.tick(1000);
        Check.notNow("it has ended by itself", () -> rows.end(1));
    }

    private static void begunHoursCost() {
        AidRows rows = ready();
        rows.ask(2, 1, 9);
        rows.message(0, 1, 0, 1, 10);
        int[][] dues = {{10, 0}, {1, 100}, {59, 100}, {1, 200}, {59, 200}, {1, 300}};
        for (int[] due : dues) {
            rows.tick(due[0]);
            Check.same("at " + rows.count(0), rows.loanAt(0, 6), due[1]);
        }
        rows.end(0);
        rows.tick(600);
        Check.same("no more once it has ended", rows.loanAt(0, 6), 300);
        Check.same("nor of the house", rows.cost(1), 300);
    }

    private static void endedBeforeItBeganCostsNothing() {
        AidRows rows = ready();
        rows.ask(2, 3, 9);
        rows.message(0, 1, 0, 3, 10);
        rows.tick(9);
        rows.end(0);
        rows.tick(1);
        rows.end(1);
        rows.tick(1);
        rows.end(2);
        rows.tick(500);
        Check.same("ended before", rows.loanAt(0, 6), 0);
        Check.same("ended at that minute", rows.loanAt(1, 6), 0);
        Check.same("ended a minute later", rows.loanAt(2, 6), 100);
        Check.same("of the house", rows.cost(1), 100);
    }

    private static void houseCostsAreSums() {
        AidRows rows = ready();
        rows.ask(2, 2, 9);
        rows.ask(0, 3, 9);
        rows.message(0, 1, 0, 2, 0);
        rows.message(1, 0, 0, 3, 60);
        Check.same("house 0", rows.cost(0), 0);
        Check.same("house 1", rows.cost(1), 0);
        rows.tick(61);
        Check.same("house 0", rows.cost(0), 21);
        Check.same("house 1", rows.cost(1), 400);
        rows.end(0);
        rows.tick(60);
        Check.same("house 0", rows.cost(0), 42);
        Check.same("house 1", rows.cost(1), 500);
    }

    private static void namesAreTheLowestFree() {
        AidRows rows = ready();
        rows.ask(2, 4, 9);
        rows.message(0, 1, 0, 4, 0);
        rows.end(2);
        rows.end(0);
        Check.same("free", rows.named(100), -1);
        Check.same("borrowed", rows.named(101), 1);
        rows.ask(2, 2, 9);
        rows.message(1, 1, 1, 2, 0);
        Check.same("the lowest first", rows.loanAt(4, 1), 100);
        Check.same("then the next", rows.loanAt(5, 1), 102);
        Check.same("the new bearer", rows.named(100), 4);
        Check.same("the old one keeps its name", rows.loanAt(0, 1), 100);
    }

    private static void namesAcrossAgreements() {
        AidRows rows = ready();
        rows.agree(1, 3, 0, 50, ALL_DAY, 3);
        rows.ask(3, 3, 9);
        rows.message(0, 1, 0, 3, 0);
        rows.ask(2, 1, 9);
        rows.message(1, 1, 1, 1, 0);
        Check.same("names are of the house, not of the agreement", rows.loanAt(3, 1), 103);
        rows.tick(50);
        Check.same("free as the agreement ended", rows.named(101), -1);
        Check.same("borrowed still", rows.named(103), 3);
    }

    private static void namedOfNoName() {
        AidRows rows = ready();
        for (int name : new int[] {-1, 0, 800, Integer.MIN_VALUE, Integer.MAX_VALUE}) {
            Check.same("name " + name, rows.named(name), -1);
        }
        rows.ask(0, 1, 9);
        rows.message(0, 0, 0, 1, 500);
        Check.same("borrowed before it begins", rows.named(0), 0);
        Check.same("of the other house", rows.named(100), -1);
    }

    private static void loanAtAndCostRefuse() {
        AidRows rows = ready();
        rows.ask(0, 1, 9);
        rows.message(0, 0, 0, 1, 0);
        for (int loan : new int[] {-1, 1, 100, Integer.MIN_VALUE, Integer.MAX_VALUE}) {
            Check.unknown("loan " + loan, () -> rows.loanAt(loan, 0));
        }
        for (int what : new int[] {-1, 7, Integer.MIN_VALUE, Integer.MAX_VALUE}) {
            Check.unknown("what " + what, () -> rows.loanAt(0, what));
        }
        for (int house : new int[] {-1, 2, 8, Integer.MIN_VALUE, Integer.MAX_VALUE}) {
            Check.unknown("house " + house, () -> rows.cost(house));
        }
    }

    private static void dearestCostFits() {
        AidRows rows = new AidRows();
        rows.house(0, 1000);
        for (int kind = 0; kind < 5; kind++) {
            rows.agree(0, kind, 0, 99_999, ALL_DAY, 20);
            rows.ask(kind, 20, 1);
            rows.message(kind, 0, kind, 20, 0);
        }
        Check.same("the highest name", rows.named(99), 99);
        for (int i = 0; i < 49; i++) {
            rows.tick(2000);
        }
        rows.tick(1999);
        Check.same("a hundred loans for all time", rows.cost(0), 100 * 1667 * 1000);
        Check.same("ended at the very last minute", rows.loanAt(99, 5), 99_999);
    }
}
