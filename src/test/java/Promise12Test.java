/** Promise 12 (cost): the price for each begun hour of all loans of a house, up to now. */
public final class Promise12Test {
    private static final int LAST = Scene.LAST_MINUTE;

    public static void main(String[] args) throws ReflectiveOperationException {
        Check.cases("Promise 12", Promise12Test.class);
    }

    static void houseMinus1IsUnknown() {
        Refusal.unknown(Scene::busy, rows -> rows.cost(-1));
    }

    static void house0IsKnown() {
        Check.same("cost", Scene.busy().cost(0), 60);
    }

    static void lastHouseIsKnown() {
        Check.same("cost", Scene.busy().cost(2), 0);
    }

    static void houseBehindTheLastIsUnknown() {
        Refusal.unknown(Scene::busy, rows -> rows.cost(3));
    }

    static void house7IsKnownWhenAllAreThere() {
        AidRows rows = Scene.houses(8);
        rows.agree(7, 0, 0, 99, Scene.ALL_DAY, 2);
        rows.ask(0, 2, 5);
        rows.message(0, 7, 0, 2, 0);
        rows.tick(1);
        Check.same("cost", rows.cost(7), 120);
        Check.same("cost of another one", rows.cost(6), 0);
    }

    static void house8IsUnknownWhenAllAreThere() {
        Refusal.unknown(() -> Scene.houses(8), rows -> rows.cost(8));
    }

    static void houseFarBelowIsUnknown() {
        Refusal.unknown(Scene::busy, rows -> rows.cost(Integer.MIN_VALUE));
    }

    static void houseFarAboveIsUnknown() {
        Refusal.unknown(Scene::busy, rows -> rows.cost(Integer.MAX_VALUE));
    }

    static void houseWithoutLoansCostsNothing() {
        Check.same("cost", Scene.lenders(1).cost(0), 0);
    }

    /** What a loan that begins at minute 10 costs at a minute, when it has not ended. */
    private static int at(int minute) {
        AidRows rows = Scene.lent(1, 10);
        rows.tick(minute);
        return rows.cost(0);
    }

    /** What it costs when it ended at that minute, much later. */
    private static int ended(int minute) {
        AidRows rows = Scene.lent(1, 10);
        rows.tick(minute);
        rows.end(0);
        rows.tick(1000);
        return rows.cost(0);
    }

    static void beforeItBeginsItCostsNothing() {
        Check.same("lent", at(9), 0);
    }

    static void atItsBeginningItCostsNothing() {
        Check.same("lent", at(10), 0);
    }

    static void firstMinuteIsABegunHour() {
        Check.same("lent", at(11), 60);
    }

    static void minute59IsTheFirstHour() {
        Check.same("lent", at(69), 60);
    }

    static void minute60IsTheFirstHour() {
        Check.same("lent", at(70), 60);
    }

    static void minute61IsTheSecondHour() {
        Check.same("lent", at(71), 120);
    }

    static void minute120IsTheSecondHour() {
        Check.same("lent", at(130), 120);
    }

    static void minute121IsTheThirdHour() {
        Check.same("lent", at(131), 180);
    }

    static void endedBeforeItBeganCostsNothing() {
        Check.same("ended", ended(9), 0);
    }

    static void endedLongBeforeItBeganCostsNothing() {
        AidRows rows = Scene.lent(1, 999);
        rows.tick(1);
        rows.end(0);
        rows.tick(2000);
        Check.same("ended", rows.cost(0), 0);
    }

    static void endedAtItsBeginningCostsNothing() {
        Check.same("ended", ended(10), 0);
    }

    static void endedAMinuteLaterCostsAnHour() {
        Check.same("ended", ended(11), 60);
    }

    static void endedAfter60MinutesCostsAnHour() {
        Check.same("ended", ended(70), 60);
    }

    static void endedAfter61MinutesCostsTwoHours() {
        Check.same("ended", ended(71), 120);
    }

    static void hoursCountFromItsBeginningNotByTheClock() {
        AidRows rows = Scene.lent(1, 50);
        rows.tick(110);
        Check.same("50 to 110 is one hour", rows.cost(0), 60);
    }

    static void endedWithTheAgreementCostsToItsLastMinute() {
        AidRows rows = Scene.houses(1);
        rows.agree(0, 0, 0, 61, Scene.ALL_DAY, 1);
        rows.ask(0, 1, 5);
        rows.message(0, 0, 0, 1, 0);
        rows.tick(60);
        Check.same("a minute before", rows.cost(0), 60);
        rows.tick(1);
        Check.same("at the last minute", rows.cost(0), 120);
        rows.tick(1000);
        Check.same("much later", rows.cost(0), 120);
    }

    static void endedWithTheAgreementBeforeItBeganCostsNothing() {
        AidRows rows = Scene.houses(1);
        rows.agree(0, 0, 0, 61, Scene.ALL_DAY, 2);
        rows.ask(0, 1, 5);
        rows.message(0, 0, 0, 1, 62);
        rows.ask(0, 1, 5);
        rows.message(1, 0, 1, 1, 61);
        rows.tick(1000);
        Check.same("begun behind the last minute, and at it", rows.cost(0), 0);
    }

    static void hoursOutsideTheAgreementCostToo() {
        AidRows rows = Scene.houses(1);
        rows.agree(0, 0, 0, LAST, 0, 1);
        rows.ask(0, 1, 5);
        rows.message(0, 0, 0, 1, 0);
        rows.tick(180);
        Check.same("three hours", rows.cost(0), 180);
    }

    static void allLoansOfTheHouseAreSummed() {
        AidRows rows = Scene.lent(3, 0);
        rows.tick(30);
        rows.end(0);
        rows.tick(60);
        Check.same("one hour and twice two", rows.cost(0), 60 + 120 + 120);
    }

    static void loansOfOtherHousesAreNotSummed() {
        AidRows rows = Scene.lenders(2);
        rows.ask(0, 5, 50);
        rows.message(0, 0, 0, 2, 0);
        rows.message(0, 1, 0, 3, 0);
        rows.tick(1);
        Check.same("house 0", rows.cost(0), 120);
        Check.same("house 1", rows.cost(1), 180);
    }

    static void price0CostsNothing() {
        AidRows rows = new AidRows();
        rows.house(0, 0);
        rows.agree(0, 0, 0, LAST, Scene.ALL_DAY, 20);
        rows.ask(0, 20, 5);
        rows.message(0, 0, 0, 20, 0);
        rows.tick(2000);
        Check.same("cost", rows.cost(0), 0);
    }

    static void dearestHouseForAllTime() {
        AidRows rows = new AidRows();
        rows.house(0, 1000);
        for (int kind = 0; kind < 5; kind++) {
            rows.agree(0, kind, 0, LAST, Scene.ALL_DAY, 20);
            rows.ask(kind, 20, 1);
            rows.message(kind, 0, kind, 20, 0);
        }
        Scene.tickTo(rows, LAST);
        Check.same("a hundred loans for 1,667 hours", rows.cost(0), 166_700_000);
    }

    static void lookingChangesNothing() {
        Refusal.changesOnly(Scene::busy, rows -> rows.cost(0));
    }
}
