/** Promise 6 (seen): houses and numbers, and the state that a number was answered with. */
public final class Promise06Test {
    public static void main(String[] args) throws ReflectiveOperationException {
        Check.cases("Promise 6", Promise06Test.class);
    }

    static void houseMinus1IsUnknown() {
        Refusal.unknown(Scene::busy, rows -> rows.seen(-1, 0));
    }

    static void house0IsKnown() {
        Check.same("seen", Scene.busy().seen(0, 0), 1);
    }

    static void lastHouseIsKnown() {
        Check.same("seen", Scene.busy().seen(2, 0), 0);
    }

    static void houseBehindTheLastIsUnknown() {
        Refusal.unknown(Scene::busy, rows -> rows.seen(3, 0));
    }

    static void house7IsKnownWhenAllAreThere() {
        Check.same("seen", Scene.houses(8).seen(7, 999), 0);
    }

    static void house8IsUnknownWhenAllAreThere() {
        Refusal.unknown(() -> Scene.houses(8), rows -> rows.seen(8, 0));
    }

    static void houseFarBelowIsUnknown() {
        Refusal.unknown(Scene::busy, rows -> rows.seen(Integer.MIN_VALUE, 0));
    }

    static void houseFarAboveIsUnknown() {
        Refusal.unknown(Scene::busy, rows -> rows.seen(Integer.MAX_VALUE, 0));
    }

    static void numberMinus1IsRefused() {
        Refusal.outside(Scene::busy, rows -> rows.seen(0, -1));
    }

    static void number0IsAllowed() {
        AidRows rows = Scene.asked(1);
        Check.same("before", rows.seen(0, 0), 0);
        rows.message(0, 0, 0, 1, 0);
        Check.same("behind", rows.seen(0, 0), 1);
    }

    static void number999IsAllowed() {
        AidRows rows = Scene.asked(1);
        Check.same("before", rows.seen(0, 999), 0);
        rows.message(0, 0, 999, 1, 0);
        Check.same("behind", rows.seen(0, 999), 1);
    }

    static void number1000IsRefused() {
        Refusal.outside(Scene::busy, rows -> rows.seen(0, 1000));
    }

    static void numberFarBelowIsRefused() {
        Refusal.outside(Scene::busy, rows -> rows.seen(0, Integer.MIN_VALUE));
    }

    static void numberFarAboveIsRefused() {
        Refusal.outside(Scene::busy, rows -> rows.seen(0, Integer.MAX_VALUE));
    }

    static void houseIsUnknownBeforeTheNumberIsOutside() {
        Refusal.unknown(Scene::busy, rows -> rows.seen(3, 1000));
        Refusal.unknown(Scene::busy, rows -> rows.seen(-1, -1));
    }

    static void neverHeardIs0() {
        Check.same("seen", Scene.busy().seen(0, 500), 0);
    }

    static void yesThatCountsIs1() {
        AidRows rows = Scene.asked(1);
        rows.message(0, 0, 9, 1, 0);
        Check.same("seen", rows.seen(0, 9), 1);
    }

    static void noThatCountsIs1() {
        AidRows rows = Scene.asked(1);
        rows.message(0, 0, 9, 0, 0);
        Check.same("seen", rows.seen(0, 9), 1);
    }

    static void lateIs3() {
        AidRows rows = Scene.lent(1, 0);
        rows.message(0, 0, 9, 1, 0);
        Check.same("seen", rows.seen(0, 9), 3);
    }

    static void tooManyIs4() {
        AidRows rows = Scene.asked(1);
        rows.message(0, 0, 9, 2, 0);
        Check.same("seen", rows.seen(0, 9), 4);
    }

    static void overACutLineIsNeverHeard() {
        AidRows rows = Scene.asked(1);
        rows.cut(0, true);
        rows.message(0, 0, 9, 1, 0);
        Check.same("seen", rows.seen(0, 9), 0);
    }

    static void repeatedOneStays1() {
        AidRows rows = Scene.asked(1);
        rows.message(0, 0, 9, 1, 0);
        rows.message(0, 0, 9, 1, 0);
        Check.same("seen", rows.seen(0, 9), 1);
    }

    static void repeatedLateOneStays3() {
        AidRows rows = Scene.lent(1, 0);
        rows.message(0, 0, 9, 1, 0);
        rows.message(0, 0, 9, 1, 0);
        Check.same("seen", rows.seen(0, 9), 3);
    }

    static void repeatedTooManyStays4() {
        AidRows rows = Scene.asked(1);
        rows.message(0, 0, 9, 2, 0);
        rows.message(0, 0, 9, 1, 0);
        Check.same("seen", rows.seen(0, 9), 4);
    }

    static void seenOverALineThatIsCutNow() {
        AidRows rows = Scene.asked(1);
        rows.message(0, 0, 9, 1, 0);
        rows.cut(0, true);
        Check.same("seen", rows.seen(0, 9), 1);
        rows.message(0, 0, 9, 1, 0);
        Check.same("seen still", rows.seen(0, 9), 1);
    }

    static void refusedMessageIsNeverHeard() {
        AidRows rows = Scene.asked(1);
        Check.outside("minutes", () -> rows.message(0, 0, 9, 1, 1000));
        Check.outside("n", () -> rows.message(0, 0, 9, 21, 0));
        Check.unknown("ask", () -> rows.message(1, 0, 9, 1, 0));
        Check.same("seen", rows.seen(0, 9), 0);
    }

    static void messageWithoutRoomIsNeverHeard() {
        AidRows rows = Scene.loans(100);
        Check.noRoom("the message", () -> rows.message(Scene.SPARE_ASK, 0, 9, 1, 0));
        Check.same("seen", rows.seen(0, 9), 0);
    }

    static void numbersBesideItAreNotSeen() {
        for (int number : new int[] {0, 1, 15, 16, 499, 500, 998, 999}) {
            int n = number;
            Refusal.changesOnly(() -> Scene.lent(1, 0), rows -> rows.message(0, 0, n, 1, 0),
                    n == 0 ? "count(4)" : "seen(0, " + n + ")");
        }
    }

    static void numbersOfOtherHousesAreNotSeen() {
        for (int house = 0; house < 8; house++) {
            int h = house;
            for (int number : new int[] {0, 999}) {
                Refusal.changesOnly(() -> {
                    AidRows rows = Scene.houses(8);
                    rows.ask(0, 1, 1);
                    return rows;
                }, rows -> rows.message(0, h, number, 1, 0), "seen(" + h + ", " + number + ")");
            }
        }
    }

    static void lookingChangesNothing() {
        Refusal.changesOnly(Scene::busy, rows -> rows.seen(0, 500));
    }
}
