/** Promise 15 (handed): the house that has a call, -1 for none. */
public final class Promise15Test {
    public static void main(String[] args) throws ReflectiveOperationException {
        Check.cases("Promise 15", Promise15Test.class);
    }

    static void callMinus1IsUnknown() {
        Refusal.unknown(Scene::busy, rows -> rows.handed(-1));
    }

    static void call0IsKnown() {
        Check.same("handed", Scene.busy().handed(0), -1);
    }

    static void call99IsKnown() {
        Check.same("handed", Scene.busy().handed(99), -1);
    }

    static void call100IsUnknown() {
        Refusal.unknown(Scene::busy, rows -> rows.handed(100));
    }

    static void callFarBelowIsUnknown() {
        Refusal.unknown(Scene::busy, rows -> rows.handed(Integer.MIN_VALUE));
    }

    static void callFarAboveIsUnknown() {
        Refusal.unknown(Scene::busy, rows -> rows.handed(Integer.MAX_VALUE));
    }

    static void callThatWasNotHandedIsMinus1() {
        Check.same("handed", Scene.busy().handed(6), -1);
    }

    static void callOfHouse0Is0() {
        Check.same("handed", Scene.busy().handed(5), 0);
    }

    static void everyHouseIsTold() {
        AidRows rows = Scene.houses(8);
        for (int house = 0; house < 8; house++) {
            rows.hand(10 + house, house);
        }
        for (int house = 0; house < 8; house++) {
            Check.same("handed", rows.handed(10 + house), house);
        }
    }

    static void refusedCallStaysMinus1() {
        AidRows rows = Scene.busy();
        Check.notNow("over a cut line", () -> rows.hand(0, 2));
        Check.unknown("to no house", () -> rows.hand(0, 3));
        Check.same("handed", rows.handed(0), -1);
    }

    static void callStaysWithItsHouse() {
        AidRows rows = Scene.busy();
        Check.notNow("again", () -> rows.hand(5, 1));
        rows.cut(0, true);
        rows.tick(2000);
        Check.same("handed", rows.handed(5), 0);
    }

    static void callIsKnownWithoutHouses() {
        Check.same("handed", new AidRows().handed(99), -1);
        Refusal.unknown(AidRows::new, rows -> rows.handed(100));
    }

    static void lookingChangesNothing() {
        Refusal.changesOnly(Scene::busy, rows -> rows.handed(6));
    }
}
