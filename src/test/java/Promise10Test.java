/** Promise 10 (askAt): six answers of each ask. */
public final class Promise10Test {
    public static void main(String[] args) throws ReflectiveOperationException {
        Check.cases("Promise 10", Promise10Test.class);
    }

    static void askMinus1IsUnknown() {
        Refusal.unknown(Scene::busy, rows -> rows.askAt(-1, 0));
    }

    static void ask0IsKnown() {
        Check.same("askAt", Scene.busy().askAt(0, 0), 1);
    }

    static void lastAskIsKnown() {
        Check.same("askAt", Scene.busy().askAt(3, 0), 0);
    }

    static void askBehindTheLastIsUnknown() {
        Refusal.unknown(Scene::busy, rows -> rows.askAt(4, 0));
    }

    static void ask29IsKnownWhenAllAreThere() {
        Check.same("askAt", Scene.asks(30).askAt(29, 0), 2);
    }

    static void ask30IsUnknownWhenAllAreThere() {
        Refusal.unknown(() -> Scene.asks(30), rows -> rows.askAt(30, 0));
    }

    static void askFarBelowIsUnknown() {
        Refusal.unknown(Scene::busy, rows -> rows.askAt(Integer.MIN_VALUE, 0));
    }

    static void askFarAboveIsUnknown() {
        Refusal.unknown(Scene::busy, rows -> rows.askAt(Integer.MAX_VALUE, 0));
    }

    static void whatMinus1IsUnknown() {
        Refusal.unknown(Scene::busy, rows -> rows.askAt(0, -1));
    }

    static void what0IsKnown() {
        Check.same("askAt", Scene.busy().askAt(1, 0), 0);
    }

    static void what5IsKnown() {
        Check.same("askAt", Scene.busy().askAt(1, 5), 0);
    }

    static void what6IsUnknown() {
        Refusal.unknown(Scene::busy, rows -> rows.askAt(0, 6));
    }

    static void whatFarBelowIsUnknown() {
        Refusal.unknown(Scene::busy, rows -> rows.askAt(0, Integer.MIN_VALUE));
    }

    static void whatFarAboveIsUnknown() {
        Refusal.unknown(Scene::busy, rows -> rows.askAt(0, Integer.MAX_VALUE));
    }

    static void openAskTellsItsHouseAndMinute() {
        AidRows rows = Scene.lenders(2);
        rows.tick(7);
        rows.ask(0, 5, 10);
        Check.ask("at its first house", rows, 0, 0, 0, 7, 0, 1, 0);
        rows.tick(10);
        Check.ask("at its second house", rows, 0, 0, 1, 17, 0, 2, 0);
    }

    static void filledAskIsAtNoHouse() {
        AidRows rows = Scene.lenders(2);
        rows.tick(7);
        rows.ask(0, 5, 10);
        rows.tick(3);
        rows.message(0, 0, 0, 5, 0);
        Check.ask("filled", rows, 0, 1, -1, 0, 5, 1, 0);
    }

    static void askThatIsGivenUpIsAtNoHouse() {
        AidRows rows = Scene.lenders(2);
        rows.tick(7);
        rows.ask(0, 5, 10);
        rows.tick(20);
        Check.ask("given up", rows, 0, 2, -1, 0, 0, 2, 0);
    }

    static void askThatFoundNoHouseWasAtNone() {
        AidRows rows = Scene.houses(8);
        rows.tick(7);
        rows.ask(0, 5, 10);
        Check.ask("given up", rows, 0, 2, -1, 0, 0, 0, 0);
    }

    static void openAskAtMinute0TellsMinute0() {
        Check.ask("open", Scene.asked(1), 0, 0, 0, 0, 0, 1, 0);
    }

    static void unitsAreThoseThatWereTold() {
        AidRows rows = Scene.lenders(3);
        rows.ask(0, 20, 50);
        rows.message(0, 0, 0, 3, 999);
        Check.same("of one house, before they arrive", rows.askAt(0, 3), 3);
        rows.message(0, 1, 0, 16, 0);
        Check.same("of two houses", rows.askAt(0, 3), 19);
        rows.message(0, 2, 0, 1, 0);
        Check.ask("all", rows, 0, 1, -1, 0, 20, 3, 0);
    }

    static void unitsOfAnAskThatIsGivenUpStay() {
        AidRows rows = Scene.asked(5);
        rows.message(0, 0, 0, 4, 0);
        Check.ask("given up with four", rows, 0, 2, -1, 0, 4, 1, 0);
    }

    static void unitsStayAsLoansEnd() {
        AidRows rows = Scene.lent(4, 0);
        rows.end(0);
        Check.same("one ended", rows.askAt(0, 3), 4);
        Scene.tickTo(rows, Scene.LAST_MINUTE);
        Check.same("all ended", rows.askAt(0, 3), 4);
    }

    static void tooManyAreNotTold() {
        AidRows rows = Scene.asked(4);
        rows.message(0, 0, 0, 5, 0);
        Check.same("units", rows.askAt(0, 3), 0);
    }

    static void housesReachEight() {
        AidRows rows = Scene.lenders(8);
        rows.ask(0, 1, 1);
        for (int i = 1; i <= 8; i++) {
            Check.same("houses", rows.askAt(0, 4), i);
            rows.tick(1);
        }
        Check.ask("given up", rows, 0, 2, -1, 0, 0, 8, 0);
    }

    static void housesCountTheOneWhoseLineIsCut() {
        AidRows rows = Scene.lenders(1);
        rows.cut(0, true);
        rows.ask(0, 1, 1);
        Check.same("houses", rows.askAt(0, 4), 1);
    }

    static void lostIs1OverACutLine() {
        AidRows rows = Scene.lenders(1);
        rows.cut(0, true);
        rows.ask(0, 1, 5);
        Check.same("lost", rows.askAt(0, 5), 1);
    }

    static void lostIs0OverAWholeLine() {
        Check.same("lost", Scene.asked(1).askAt(0, 5), 0);
    }

    static void lostStays1AsTheLineIsWholeAgain() {
        AidRows rows = Scene.lenders(1);
        rows.cut(0, true);
        rows.ask(0, 1, 5);
        rows.cut(0, false);
        Check.same("lost", rows.askAt(0, 5), 1);
    }

    static void lostStays0AsTheLineIsCutLater() {
        AidRows rows = Scene.asked(1);
        rows.cut(0, true);
        Check.same("lost", rows.askAt(0, 5), 0);
    }

    static void lostIsOfTheHouseNow() {
        AidRows rows = Scene.lenders(3);
        rows.cut(0, true);
        rows.cut(2, true);
        rows.ask(0, 1, 5);
        Check.same("house 0", rows.askAt(0, 5), 1);
        rows.tick(5);
        Check.same("house 1", rows.askAt(0, 5), 0);
        rows.tick(5);
        Check.same("house 2", rows.askAt(0, 5), 1);
        rows.tick(5);
        Check.same("no house", rows.askAt(0, 5), 0);
    }

    static void lostAskThatIsFilledIsNotLost() {
        AidRows rows = Scene.lenders(1);
        rows.cut(0, true);
        rows.ask(0, 1, 5);
        rows.cut(0, false);
        rows.message(0, 0, 0, 1, 0);
        Check.ask("filled", rows, 0, 1, -1, 0, 1, 1, 0);
    }

    static void lookingChangesNothing() {
        for (int what = 0; what < 6; what++) {
            int w = what;
            Refusal.changesOnly(Scene::busy, rows -> rows.askAt(1, w));
        }
    }
}
