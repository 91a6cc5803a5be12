/** Promise 8 (cut): a line is cut, or whole again; whole at first. */
public final class Promise08Test {
    public static void main(String[] args) throws ReflectiveOperationException {
        Check.cases("Promise 8", Promise08Test.class);
    }

    static void houseMinus1IsUnknown() {
        Refusal.unknown(Scene::busy, rows -> rows.cut(-1, true));
    }

    static void house0IsKnown() {
        AidRows rows = Scene.busy();
        rows.cut(0, true);
        Check.notNow("hand", () -> rows.hand(0, 0));
    }

    static void lastHouseIsKnown() {
        AidRows rows = Scene.busy();
        rows.cut(2, false);
        rows.hand(0, 2);
        Check.same("handed", rows.handed(0), 2);
    }

    static void houseBehindTheLastIsUnknown() {
        Refusal.unknown(Scene::busy, rows -> rows.cut(3, true));
    }

    static void house7IsKnownWhenAllAreThere() {
        AidRows rows = Scene.houses(8);
        rows.cut(7, true);
        Check.notNow("hand", () -> rows.hand(0, 7));
    }

    static void house8IsUnknownWhenAllAreThere() {
        Refusal.unknown(() -> Scene.houses(8), rows -> rows.cut(8, true));
    }

    static void houseFarBelowIsUnknown() {
        Refusal.unknown(Scene::busy, rows -> rows.cut(Integer.MIN_VALUE, true));
    }

    static void houseFarAboveIsUnknown() {
        Refusal.unknown(Scene::busy, rows -> rows.cut(Integer.MAX_VALUE, true));
    }

    static void unknownHouseIsNotWholeEither() {
        Refusal.unknown(Scene::busy, rows -> rows.cut(3, false));
    }

    static void lineThatIsWholeAtFirstIsSo() {
        Refusal.notNow(Scene::busy, rows -> rows.cut(0, false));
    }

    static void lineOfANewHouseIsWhole() {
        AidRows rows = Scene.busy();
        rows.house(1, 1);
        Check.notNow("whole", () -> rows.cut(3, false));
        rows.cut(3, true);
    }

    static void lineThatIsCutIsSo() {
        Refusal.notNow(Scene::busy, rows -> rows.cut(2, true));
    }

    static void lineThatIsWholeAgainIsSo() {
        Refusal.notNow(() -> {
            AidRows rows = Scene.busy();
            rows.cut(2, false);
            return rows;
        }, rows -> rows.cut(2, false));
    }

    static void lineCanBeCutAgain() {
        AidRows rows = Scene.houses(1);
        for (int i = 0; i < 3; i++) {
            rows.cut(0, true);
            Check.notNow("cut", () -> rows.hand(0, 0));
            rows.cut(0, false);
        }
        rows.hand(0, 0);
        Check.same("handed", rows.handed(0), 0);
    }

    static void otherLinesAreAsBefore() {
        Refusal.changesOnly(Scene::busy, rows -> rows.cut(0, true), "line of 0");
        Refusal.changesOnly(Scene::busy, rows -> rows.cut(2, false), "line of 2");
    }

    static void cutLineLosesNoAskThatCameBefore() {
        AidRows rows = Scene.asked(1);
        rows.cut(0, true);
        Check.ask("not lost", rows, 0, 0, 0, 0, 0, 1, 0);
    }

    static void wholeLineBringsNoLostAsk() {
        AidRows rows = Scene.lenders(1);
        rows.cut(0, true);
        rows.ask(0, 1, 5);
        rows.cut(0, false);
        Check.ask("lost still", rows, 0, 0, 0, 0, 0, 1, 1);
    }

    static void cutLineEndsNoLoan() {
        AidRows rows = Scene.lent(2, 0);
        rows.cut(0, true);
        Check.same("lent", rows.count(1), 2);
        rows.tick(60);
        Check.same("they cost on", rows.cost(0), 120);
    }

    static void cutLineTakesNoCallBack() {
        AidRows rows = Scene.houses(1);
        rows.hand(0, 0);
        rows.cut(0, true);
        Check.same("handed", rows.handed(0), 0);
    }

    static void cutLineStaysCutAsTimeGoesOn() {
        AidRows rows = Scene.busy();
        rows.tick(2000);
        Check.notNow("cut", () -> rows.cut(2, true));
    }
}
