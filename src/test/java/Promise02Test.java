/** Promise 2 (house): ranks 0 .. 9, prices 0 .. 1,000 an hour, at most 8 houses. */
public final class Promise02Test {
    public static void main(String[] args) throws ReflectiveOperationException {
        Check.cases("Promise 2", Promise02Test.class);
    }

    static void rankMinus1IsRefused() {
        Refusal.outside(Scene::busy, rows -> rows.house(-1, 5));
    }

    static void rank0IsAllowed() {
        Check.same("house", Scene.busy().house(0, 5), 3);
    }

    static void rank9IsAllowed() {
        Check.same("house", Scene.busy().house(9, 5), 3);
    }

    static void rank10IsRefused() {
        Refusal.outside(Scene::busy, rows -> rows.house(10, 5));
    }

    static void rankFarBelowIsRefused() {
        Refusal.outside(Scene::busy, rows -> rows.house(Integer.MIN_VALUE, 5));
    }

    static void rankFarAboveIsRefused() {
        Refusal.outside(Scene::busy, rows -> rows.house(Integer.MAX_VALUE, 5));
    }

    static void priceMinus1IsRefused() {
        Refusal.outside(Scene::busy, rows -> rows.house(5, -1));
    }

    static void price0IsAllowed() {
        Check.same("house", Scene.busy().house(5, 0), 3);
    }

    static void price1000IsAllowed() {
        Check.same("house", Scene.busy().house(5, 1000), 3);
    }

    static void price1001IsRefused() {
        Refusal.outside(Scene::busy, rows -> rows.house(5, 1001));
    }

    static void priceFarBelowIsRefused() {
        Refusal.outside(Scene::busy, rows -> rows.house(5, Integer.MIN_VALUE));
    }

    static void priceFarAboveIsRefused() {
        Refusal.outside(Scene::busy, rows -> rows.house(5, Integer.MAX_VALUE));
    }

    static void rankAndPriceWrongAreRefused() {
        Refusal.outside(Scene::busy, rows -> rows.house(10, 1001));
    }

    static void firstHouseIs0() {
        Check.same("house", new AidRows().house(0, 0), 0);
    }

    static void numbersFollowEachOther() {
        AidRows rows = new AidRows();
        for (int i = 0; i < 8; i++) {
            Check.same("house", rows.house(9 - i, i), i);
        }
    }

    static void eighthHouseHasRoom() {
        AidRows rows = Scene.houses(7);
        Check.same("house", rows.house(9, 1000), 7);
        Check.same("its cost", rows.cost(7), 0);
    }

    static void ninthHouseHasNoRoom() {
        Refusal.noRoom(() -> Scene.lenders(8), rows -> rows.house(9, 1000));
    }

    static void rankIsRefusedBeforeNoRoom() {
        Refusal.outside(() -> Scene.lenders(8), rows -> rows.house(10, 0));
    }

    static void priceIsRefusedBeforeNoRoom() {
        Refusal.outside(() -> Scene.lenders(8), rows -> rows.house(0, 1001));
    }

    static void refusedHouseTakesNoNumber() {
        AidRows rows = Scene.houses(2);
        Check.outside("a wrong rank", () -> rows.house(-1, 0));
        Check.outside("a wrong price", () -> rows.house(0, -1));
        Check.same("the next house", rows.house(0, 0), 2);
    }

    static void rank9GoesBeforeRank8() {
        Check.same("the first house", firstOfTwo(8, 9), 1);
    }

    static void rank1GoesBeforeRank0() {
        Check.same("the first house", firstOfTwo(0, 1), 1);
    }

    static void equalRanksGoByNumbers() {
        Check.same("the first house", firstOfTwo(9, 9), 0);
    }

    private static int firstOfTwo(int rank, int otherRank) {
        AidRows rows = new AidRows();
        rows.house(rank, 0);
        rows.house(otherRank, 0);
        rows.agree(0, 0, 0, 9, Scene.ALL_DAY, 1);
        rows.agree(1, 0, 0, 9, Scene.ALL_DAY, 1);
        return rows.askAt(rows.ask(0, 1, 1), 1);
    }

    static void price0CostsNothing() {
        Check.same("an hour", hourAt(0), 0);
    }

    static void price1000IsTakenForAnHour() {
        Check.same("an hour", hourAt(1000), 1000);
    }

    private static int hourAt(int price) {
        AidRows rows = new AidRows();
        rows.house(0, price);
        rows.agree(0, 0, 0, 99, Scene.ALL_DAY, 1);
        rows.ask(0, 1, 1);
        rows.message(0, 0, 0, 1, 0);
        rows.tick(60);
        return rows.cost(0);
    }
}
