/** Promise 4 (ask): kinds, units and patience, 30 asks, and the house that an ask goes to. */
public final class Promise04Test {
    private static final int LAST = Scene.LAST_MINUTE;

    public static void main(String[] args) throws ReflectiveOperationException {
        Check.cases("Promise 4", Promise04Test.class);
    }

    static void kindMinus1IsUnknown() {
        Refusal.unknown(Scene::busy, rows -> rows.ask(-1, 1, 5));
    }

    static void kind0IsAllowed() {
        Check.same("ask", Scene.busy().ask(0, 1, 5), 4);
    }

    static void kind9IsAllowed() {
        Check.same("ask", Scene.busy().ask(9, 1, 5), 4);
    }

    static void kind10IsUnknown() {
        Refusal.unknown(Scene::busy, rows -> rows.ask(10, 1, 5));
    }

    static void kindFarBelowIsUnknown() {
        Refusal.unknown(Scene::busy, rows -> rows.ask(Integer.MIN_VALUE, 1, 5));
    }

    static void kindFarAboveIsUnknown() {
        Refusal.unknown(Scene::busy, rows -> rows.ask(Integer.MAX_VALUE, 1, 5));
    }

    static void unitsMinus1IsRefused() {
        Refusal.outside(Scene::busy, rows -> rows.ask(0, -1, 5));
    }

    static void units0IsRefused() {
        Refusal.outside(Scene::busy, rows -> rows.ask(0, 0, 5));
    }

    static void units1IsAllowed() {
        AidRows rows = Scene.asked(1);
        Check.same("more than 1", rows.message(0, 0, 0, 2, 0), 4);
        Check.same("all", rows.message(0, 0, 1, 1, 0), 1);
        Check.same("filled", rows.askAt(0, 0), 1);
    }

    static void units20IsAllowed() {
        AidRows rows = Scene.asked(20);
        Check.same("all", rows.message(0, 0, 0, 20, 0), 1);
        Check.same("filled", rows.askAt(0, 0), 1);
    }

    static void units21IsRefused() {
        Refusal.outside(Scene::busy, rows -> rows.ask(0, 21, 5));
    }

    static void unitsFarBelowIsRefused() {
        Refusal.outside(Scene::busy, rows -> rows.ask(0, Integer.MIN_VALUE, 5));
    }

    static void unitsFarAboveIsRefused() {
        Refusal.outside(Scene::busy, rows -> rows.ask(0, Integer.MAX_VALUE, 5));
    }

    static void patienceMinus1IsRefused() {
        Refusal.outside(Scene::busy, rows -> rows.ask(0, 1, -1));
    }

    static void patience0IsRefused() {
        Refusal.outside(Scene::busy, rows -> rows.ask(0, 1, 0));
    }

    static void patience1IsAllowed() {
        AidRows rows = Scene.lenders(1);
        Check.same("ask", rows.ask(0, 1, 1), 0);
        Check.same("open", rows.askAt(0, 0), 0);
        Check.same("a minute later it goes on", rows.tick(1), 1);
    }

    static void patience500IsAllowed() {
        AidRows rows = Scene.lenders(1);
        Check.same("ask", rows.ask(0, 1, 500), 0);
        Check.same("it waits", rows.tick(499), 0);
        Check.same("it goes on", rows.tick(1), 1);
    }

    static void patience501IsRefused() {
        Refusal.outside(Scene::busy, rows -> rows.ask(0, 1, 501));
    }

    static void patienceFarBelowIsRefused() {
        Refusal.outside(Scene::busy, rows -> rows.ask(0, 1, Integer.MIN_VALUE));
    }

    static void patienceFarAboveIsRefused() {
        Refusal.outside(Scene::busy, rows -> rows.ask(0, 1, Integer.MAX_VALUE));
    }

    static void firstAskIs0() {
        Check.same("ask", Scene.lenders(1).ask(0, 1, 1), 0);
    }

    static void numbersFollowEachOther() {
        AidRows rows = Scene.lenders(1);
        for (int i = 0; i < 30; i++) {
            Check.same("ask", rows.ask(i % 2, 1, 500), i);
        }
    }

    static void thirtiethHasRoom() {
        AidRows rows = Scene.asks(29);
        Check.same("ask", rows.ask(0, 20, 500), 29);
        Check.ask("it is there", rows, 29, 0, 0, 0, 0, 1, 0);
    }

    static void thirtyFirstHasNoRoom() {
        Refusal.noRoom(() -> Scene.asks(30), rows -> rows.ask(0, 1, 5));
    }

    static void thirtyFirstHasNoRoomThoughItWouldBeGivenUp() {
        Refusal.noRoom(() -> Scene.asks(30), rows -> rows.ask(9, 1, 5));
    }

    static void asksThatAreNotOpenMakeNoRoom() {
        Refusal.noRoom(() -> {
            AidRows rows = Scene.asks(30);
            rows.tick(500);
            return rows;
        }, rows -> rows.ask(0, 1, 5));
    }

    static void refusedAskTakesNoNumber() {
        AidRows rows = Scene.lenders(1);
        Check.unknown("a wrong kind", () -> rows.ask(10, 1, 1));
        Check.outside("wrong units", () -> rows.ask(0, 0, 1));
        Check.outside("a wrong patience", () -> rows.ask(0, 1, 0));
        Check.same("the next one", rows.ask(0, 1, 1), 0);
    }

    static void kindIsUnknownBeforeUnitsAreOutside() {
        Refusal.unknown(Scene::busy, rows -> rows.ask(10, 0, 5));
    }

    static void kindIsUnknownBeforePatienceIsOutside() {
        Refusal.unknown(Scene::busy, rows -> rows.ask(-1, 1, 501));
    }

    static void kindIsUnknownBeforeNoRoom() {
        Refusal.unknown(() -> Scene.asks(30), rows -> rows.ask(10, 1, 5));
    }

    static void unitsAreOutsideBeforeNoRoom() {
        Refusal.outside(() -> Scene.asks(30), rows -> rows.ask(0, 21, 5));
    }

    static void patienceIsOutsideBeforeNoRoom() {
        Refusal.outside(() -> Scene.asks(30), rows -> rows.ask(0, 1, 501));
    }

    static void askThatFindsNoHouseIsGivenUp() {
        AidRows rows = Scene.houses(8);
        Check.same("it has a number", rows.ask(0, 1, 5), 0);
        Check.ask("given up at no house", rows, 0, 2, -1, 0, 0, 0, 0);
        Check.same("none is open", rows.count(2), 0);
    }

    static void askOfAnotherKindFindsNoHouse() {
        AidRows rows = Scene.lenders(8);
        Check.ask("given up", rows, rows.ask(1, 1, 5), 2, -1, 0, 0, 0, 0);
    }

    static void askAtAMinuteBeforeAnAgreementFindsNoHouse() {
        Check.same("found", Scene.holds(1, LAST, Scene.ALL_DAY, 0), 0);
    }

    static void askAtTheLastMinuteOfAnAgreementFindsNoHouse() {
        Check.same("found", Scene.holds(0, 50, Scene.ALL_DAY, 50), 0);
    }

    static void askAtAnotherHourFindsNoHouse() {
        Check.same("found", Scene.holds(0, LAST, 0, 60), 0);
    }

    static void askGoesToTheHighestRank() {
        Check.same("house", houseOf(new int[] {0, 8, 9, 8}, 0, 1, 2, 3), 2);
    }

    static void askGoesToTheLowestNumberOfARank() {
        Check.same("house", houseOf(new int[] {3, 7, 7, 7}, 0, 1, 2, 3), 1);
    }

    static void askPassesAHigherRankWithoutAgreement() {
        Check.same("house", houseOf(new int[] {9, 0, 9}, 1), 1);
    }

    static void askGoesToTheLastHouse() {
        Check.same("house", houseOf(new int[] {9, 9, 9, 9, 9, 9, 9, 0}, 7), 7);
    }

    /** Where an ask goes first when houses have these ranks and the lenders have agreements for its kind. */
    private static int houseOf(int[] ranks, int... lenders) {
        AidRows rows = new AidRows();
        for (int rank : ranks) {
            rows.house(rank, 0);
        }
        for (int lender : lenders) {
            rows.agree(lender, 0, 0, 9, Scene.ALL_DAY, 1);
        }
        return rows.askAt(rows.ask(0, 1, 1), 1);
    }

    static void askGoesToAHouseThatHasNoUnitLeft() {
        AidRows rows = Scene.lent(20, 0);
        Check.ask("open there", rows, rows.ask(0, 1, 5), 0, 0, 0, 0, 1, 0);
    }

    static void askGoesOverALineThatIsCut() {
        AidRows rows = Scene.lenders(2);
        rows.cut(0, true);
        Check.ask("lost, but there", rows, rows.ask(0, 1, 5), 0, 0, 0, 0, 1, 1);
    }

    static void askIsThereSinceNow() {
        AidRows rows = Scene.lenders(1);
        rows.tick(77);
        Check.ask("since", rows, rows.ask(0, 1, 5), 0, 0, 77, 0, 1, 0);
    }

    static void askAtMinute99998IsAllowed() {
        AidRows rows = Scene.lenders(1);
        Scene.tickTo(rows, LAST - 1);
        Check.ask("open", rows, rows.ask(0, 1, 500), 0, 0, LAST - 1, 0, 1, 0);
        Check.same("its patience has not passed", rows.tick(1), 0);
    }

    static void askAtMinute99999FindsNoHouse() {
        AidRows rows = Scene.lenders(1);
        Scene.tickTo(rows, LAST);
        Check.ask("given up", rows, rows.ask(0, 1, 500), 2, -1, 0, 0, 0, 0);
    }
}
