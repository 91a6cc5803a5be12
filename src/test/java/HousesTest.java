/** Promises 1 (a new object), 2 (house) and 8 (cut). */
public final class HousesTest {
    private static final int[] WRONG_HOUSES = {-1, 0, 7, 8, Integer.MIN_VALUE, Integer.MAX_VALUE};

    public static void main(String[] args) {
        newObjectHasNothing();
        housesAreNumbered();
        houseRefuses();
        cutChangesTheLine();
        cutRefuses();
        objectsAreApart();
        Check.finish();
    }

    private static void newObjectHasNothing() {
        AidRows rows = new AidRows();
        for (int what = 0; what < 5; what++) {
            Check.same("count of a new object", rows.count(what), 0);
        }
        for (int house : WRONG_HOUSES) {
            Check.unknown("cost of no house", () -> rows.cost(house));
            Check.unknown("cut of no house", () -> rows.cut(house, true));
            Check.unknown("seen of no house", () -> rows.seen(house, 0));
            Check.unknown("agree with no house", () -> rows.agree(house, 0, 0, 1, 23, 1));
            Check.unknown("hand to no house", () -> rows.hand(0, house));
        }
        Check.unknown("no asks", () -> rows.askAt(0, 0));
        Check.unknown("no loans", () -> rows.loanAt(0, 0));
        for (int call = 0; call < 100; call++) {
            Check.same("no call is handed", rows.handed(call), -1);
        }
        for (int name = 0; name < 800; name += 50) {
            Check.same("no name is borrowed", rows.named(name), -1);
        }
    }

    private static void housesAreNumbered() {
        AidRows rows = new AidRows();
        for (int i = 0; i < 8; i++) {
            Check.same("house", rows.house(i % 2 * 9, i % 2 * 1000), i);
        }
        Check.noRoom("ninth house", () -> rows.house(0, 0));
        Check.outside("a wrong rank comes before no room", () -> rows.house(10, 0));
        Check.outside("a wrong price comes before no room", () -> rows.house(0, 1001));
        Check.same("eight houses stand", rows.cost(7), 0);
        Check.unknown("no ninth house", () -> rows.cost(8));
    }

    private static void houseRefuses() {
        AidRows rows = new AidRows();
        for (int rank : new int[] {-1, 10, Integer.MIN_VALUE, Integer.MAX_VALUE}) {
            Check.outside("rank " + rank, () -> rows.house(rank, 5));
        }
        for (int price : new int[] {-1, 1001, Integer.MIN_VALUE, Integer.MAX_VALUE}) {
            Check.outside("price " + price, () -> rows.house(5, price));
        }
        Check.same("a refused house takes no number", rows.house(9, 1000), 0);
    }

    private static void cutChangesTheLine() {
        AidRows rows = new AidRows();
        rows.house(1, 1);
        rows.house(1, 1);
        rows.cut(1, true);
        rows.hand(0, 0);
        Check.notNow("hand over a cut line", () -> rows.hand(1, 1));
        rows.cut(1, false);
        rows.hand(1, 1);
        Check.same("whole again", rows.handed(1), 1);
    }

    private static void cutRefuses() {
        AidRows rows = new AidRows();
        rows.house(1, 1);
        Check.notNow("it is whole at first", () -> rows.cut(0, false));
        rows.cut(0, true);
        Check.notNow("it is cut", () -> rows.cut(0, true));
        rows.cut(0, false);
        Check.notNow("it is whole again", () -> rows.cut(0, false));
        Check.unknown("house -1", () -> rows.cut(-1, true));
        Check.unknown("house 1", () -> rows.cut(1, false));
    }

    private static void objectsAreApart() {
        AidRows first = new AidRows();
        AidRows second = new AidRows();
        first.house(1, 1);
        first.tick(5);
        Check.same("the other clock", second.count(0), 0);
        Check.same("the other house", second.house(2, 2), 0);
    }
}
