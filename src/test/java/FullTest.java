/** Promises 1 to 16 where all is full: the last house, number, agreement, ask, loan, name and call. */
public final class FullTest {
    private static final int ALL_DAY = 23;

    public static void main(String[] args) {
        everythingFull();
        everyNumberIsApart();
        Check.finish();
    }

    /** 8 houses, 30 agreements, 30 asks and 100 loans, the last five of them of the last house. */
    private static void everythingFull() {
        AidRows rows = new AidRows();
        for (int house = 0; house < 8; house++) {
            rows.house(9, house);
        }
        for (int i = 0; i < 30; i++) {
            rows.agree(i < 25 ? 0 : 7, i < 25 ? i % 5 : 5, i < 5 ? 0 : 1000 + i, i < 5 ? 1000 : 1001 + i, ALL_DAY, 20);
        }
        for (int i = 0; i < 5; i++) {
            rows.ask(i, 20, 500);
            rows.message(i, 0, i, i < 4 ? 20 : 15, 0);
        }
        rows.tick(1029);
        Check.same("all loans are over", rows.count(1), 0);
        rows.ask(5, 20, 500);
        Check.same("the last agreement holds", rows.message(5, 7, 999, 5, 0), 1);
        for (int i = 6; i < 30; i++) {
            Check.same("ask", rows.ask(5, 20, 500), i);
        }
        Check.loan("the last loan", rows, 99, 7, 704, 5, 29, 1029, -1, 0);
        Check.ask("the last ask", rows, 29, 0, 7, 1029, 0, 1, 0);
        Check.same("the last name", rows.named(704), 99);
        Check.same("no name", rows.named(705), -1);
        Check.same("lent", rows.count(1), 5);
        Check.same("open", rows.count(2), 24);
        Check.same("more than the agreement has left", rows.message(29, 7, 998, 16, 0), 4);
        Check.noRoom("the 101st loan", () -> rows.message(29, 7, 997, 1, 0));
        Check.noRoom("the 31st agreement", () -> rows.agree(7, 9, 0, 1, ALL_DAY, 1));
        Check.same("seen", rows.seen(7, 999), 1);
        Check.same("the last house's cost", rows.cost(7), 0);
        Check.same("the first house's cost", rows.cost(0), 0);
        Check.same("all asks go on", rows.tick(500), 24);
        Check.same("ended", rows.loanAt(99, 5), 1030);
        Check.same("cost of five", rows.cost(7), 35);
        rows.hand(99, 7);
        Check.same("the last call", rows.handed(99), 7);
    }

    private static void everyNumberIsApart() {
        for (int house = 0; house < 8; house++) {
            AidRows rows = new AidRows();
            for (int i = 0; i < 8; i++) {
                rows.house(0, 0);
            }
            rows.agree(house, 0, 0, 9, ALL_DAY, 1);
            rows.ask(0, 1, 9);
            for (int number = house; number < 1000; number += 8) {
                rows.message(0, house, number, 20, 0);
            }
            for (int number = 0; number < 1000; number += 3) {
                Check.same("number " + number, rows.seen(house, number), number % 8 == house ? 4 : 0);
            }
        }
    }
}
