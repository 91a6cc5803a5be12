/** Promise 14 (hand): calls 0 .. 99 go to a house when its line is whole, each once. */
public final class Promise14Test {
    public static void main(String[] args) throws ReflectiveOperationException {
        Check.cases("Promise 14", Promise14Test.class);
    }

    static void callMinus1IsUnknown() {
        Refusal.unknown(Scene::busy, rows -> rows.hand(-1, 0));
    }

    static void call0IsAllowed() {
        AidRows rows = Scene.busy();
        rows.hand(0, 1);
        Check.same("handed", rows.handed(0), 1);
    }

    static void call99IsAllowed() {
        AidRows rows = Scene.busy();
        rows.hand(99, 1);
        Check.same("handed", rows.handed(99), 1);
    }

    static void call100IsUnknown() {
        Refusal.unknown(Scene::busy, rows -> rows.hand(100, 0));
    }

    static void callFarBelowIsUnknown() {
        Refusal.unknown(Scene::busy, rows -> rows.hand(Integer.MIN_VALUE, 0));
    }

    static void callFarAboveIsUnknown() {
        Refusal.unknown(Scene::busy, rows -> rows.hand(Integer.MAX_VALUE, 0));
    }

    static void houseMinus1IsUnknown() {
        Refusal.unknown(Scene::busy, rows -> rows.hand(0, -1));
    }

    static void house0IsKnown() {
        AidRows rows = Scene.busy();
        rows.hand(0, 0);
        Check.same("handed", rows.handed(0), 0);
    }

    static void houseBehindTheLastIsUnknown() {
        Refusal.unknown(Scene::busy, rows -> rows.hand(0, 3));
    }

    static void house7IsKnownWhenAllAreThere() {
        AidRows rows = Scene.houses(8);
        rows.hand(0, 7);
        Check.same("handed", rows.handed(0), 7);
    }

    static void house8IsUnknownWhenAllAreThere() {
        Refusal.unknown(() -> Scene.houses(8), rows -> rows.hand(0, 8));
    }

    static void houseFarBelowIsUnknown() {
        Refusal.unknown(Scene::busy, rows -> rows.hand(0, Integer.MIN_VALUE));
    }

    static void houseFarAboveIsUnknown() {
        Refusal.unknown(Scene::busy, rows -> rows.hand(0, Integer.MAX_VALUE));
    }

    static void callThatWasHandedIsRefused() {
        Refusal.notNow(Scene::busy, rows -> rows.hand(5, 0));
    }

    static void callThatWasHandedToAnotherHouseIsRefused() {
        Refusal.notNow(Scene::busy, rows -> rows.hand(5, 1));
    }

    static void lineThatIsCutIsRefused() {
        Refusal.notNow(Scene::busy, rows -> rows.hand(0, 2));
    }

    static void callThatWasHandedOverALineThatIsCutIsRefused() {
        Refusal.notNow(Scene::busy, rows -> rows.hand(5, 2));
    }

    static void lineThatIsWholeAgainIsAllowed() {
        AidRows rows = Scene.busy();
        Check.notNow("cut", () -> rows.hand(0, 2));
        rows.cut(2, false);
        rows.hand(0, 2);
        Check.same("handed", rows.handed(0), 2);
    }

    static void callThatWasRefusedCanGoElsewhere() {
        AidRows rows = Scene.busy();
        Check.notNow("cut", () -> rows.hand(0, 2));
        rows.hand(0, 1);
        Check.same("handed", rows.handed(0), 1);
    }

    static void callIsUnknownBeforeTheLineIsCut() {
        Refusal.unknown(Scene::busy, rows -> rows.hand(100, 2));
    }

    static void houseIsUnknownBeforeTheCallWasHanded() {
        Refusal.unknown(Scene::busy, rows -> rows.hand(5, 3));
    }

    static void allCallsGoToOneHouse() {
        AidRows rows = Scene.houses(1);
        for (int call = 0; call < 100; call++) {
            rows.hand(call, 0);
        }
        for (int call = 0; call < 100; call++) {
            int c = call;
            Check.same("handed", rows.handed(call), 0);
            Check.notNow("again", () -> rows.hand(c, 0));
        }
    }

    static void otherCallsAreAsBefore() {
        Refusal.changesOnly(Scene::busy, rows -> rows.hand(6, 1), "handed(6)");
    }

    static void houseNeedsNoAgreement() {
        AidRows rows = Scene.houses(1);
        rows.hand(0, 0);
        Check.same("handed", rows.handed(0), 0);
    }
}
