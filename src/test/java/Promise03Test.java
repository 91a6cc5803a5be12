/** Promise 3 (agree): houses, kinds, minutes, hours and units, shared minutes, 30 agreements, and when one holds. */
public final class Promise03Test {
    private static final int LAST = Scene.LAST_MINUTE;

    public static void main(String[] args) throws ReflectiveOperationException {
        Check.cases("Promise 3", Promise03Test.class);
    }

    /** An agreement with nothing wrong but what is put in for it. */
    private static int agree(AidRows rows, int house, int kind) {
        return rows.agree(house, kind, 0, 9, Scene.ALL_DAY, 1);
    }

    private static int span(AidRows rows, int from, int to) {
        return rows.agree(0, 9, from, to, Scene.ALL_DAY, 1);
    }

    private static int hours(AidRows rows, int hours) {
        return rows.agree(0, 9, 0, 9, hours, 1);
    }

    private static int units(AidRows rows, int units) {
        return rows.agree(0, 9, 0, 9, Scene.ALL_DAY, units);
    }

    static void houseMinus1IsUnknown() {
        Refusal.unknown(Scene::busy, rows -> agree(rows, -1, 9));
    }

    static void house0IsAllowed() {
        Check.same("agree", agree(Scene.busy(), 0, 9), 4);
    }

    static void lastHouseIsAllowed() {
        Check.same("agree", agree(Scene.busy(), 2, 9), 4);
    }

    static void houseBehindTheLastIsUnknown() {
        Refusal.unknown(Scene::busy, rows -> agree(rows, 3, 9));
    }

    static void house7IsAllowedWhenAllAreThere() {
        Check.same("agree", agree(Scene.houses(8), 7, 9), 0);
    }

    static void house8IsUnknownWhenAllAreThere() {
        Refusal.unknown(() -> Scene.houses(8), rows -> agree(rows, 8, 9));
    }

    static void houseFarBelowIsUnknown() {
        Refusal.unknown(Scene::busy, rows -> agree(rows, Integer.MIN_VALUE, 9));
    }

    static void houseFarAboveIsUnknown() {
        Refusal.unknown(Scene::busy, rows -> agree(rows, Integer.MAX_VALUE, 9));
    }

    static void kindMinus1IsUnknown() {
        Refusal.unknown(Scene::busy, rows -> agree(rows, 0, -1));
    }

    static void kind0IsAllowed() {
        AidRows rows = Scene.houses(1);
        Check.same("agree", agree(rows, 0, 0), 0);
        Check.same("it holds", Scene.finds(rows, 0), 1);
    }

    static void kind9IsAllowed() {
        AidRows rows = Scene.houses(1);
        Check.same("agree", agree(rows, 0, 9), 0);
        Check.same("it holds", Scene.finds(rows, 9), 1);
    }

    static void kind10IsUnknown() {
        Refusal.unknown(Scene::busy, rows -> agree(rows, 0, 10));
    }

    static void kindFarBelowIsUnknown() {
        Refusal.unknown(Scene::busy, rows -> agree(rows, 0, Integer.MIN_VALUE));
    }

    static void kindFarAboveIsUnknown() {
        Refusal.unknown(Scene::busy, rows -> agree(rows, 0, Integer.MAX_VALUE));
    }

    static void fromMinus1IsRefused() {
        Refusal.outside(Scene::busy, rows -> span(rows, -1, 9));
    }

    static void from0IsAllowed() {
        Check.same("agree", span(Scene.busy(), 0, 9), 4);
    }

    static void from99998IsAllowed() {
        Check.same("agree", span(Scene.busy(), LAST - 1, LAST), 4);
    }

    static void from99999LeavesNoMinuteAbove() {
        Refusal.outside(Scene::busy, rows -> span(rows, LAST, LAST));
    }

    static void from100000IsRefused() {
        Refusal.outside(Scene::busy, rows -> span(rows, LAST + 1, LAST + 2));
    }

    static void fromFarBelowIsRefused() {
        Refusal.outside(Scene::busy, rows -> span(rows, Integer.MIN_VALUE, 9));
    }

    static void to99999IsAllowed() {
        Check.same("agree", span(Scene.busy(), 0, LAST), 4);
    }

    static void to100000IsRefused() {
        Refusal.outside(Scene::busy, rows -> span(rows, 0, LAST + 1));
    }

    static void toFarAboveIsRefused() {
        Refusal.outside(Scene::busy, rows -> span(rows, 0, Integer.MAX_VALUE));
    }

    static void toMinus1IsRefused() {
        Refusal.outside(Scene::busy, rows -> span(rows, -2, -1));
    }

    static void toOneAboveFromIsAllowed() {
        Check.same("agree", span(Scene.busy(), 0, 1), 4);
    }

    static void toEqualToFromIsRefused() {
        Refusal.outside(Scene::busy, rows -> span(rows, 5, 5));
    }

    static void toEqualToFrom0IsRefused() {
        Refusal.outside(Scene::busy, rows -> span(rows, 0, 0));
    }

    static void toBelowFromIsRefused() {
        Refusal.outside(Scene::busy, rows -> span(rows, 6, 5));
    }

    static void minutesThatArePastAreAllowed() {
        AidRows rows = Scene.houses(1);
        rows.tick(100);
        Check.same("agree", span(rows, 0, 100), 0);
        Check.same("it does not hold now", Scene.finds(rows, 9), 0);
    }

    static void hoursMinus1IsRefused() {
        Refusal.outside(Scene::busy, rows -> hours(rows, -1));
    }

    static void hours0IsAllowed() {
        Check.same("agree", hours(Scene.busy(), 0), 4);
    }

    static void hours23IsAllowed() {
        Check.same("agree", hours(Scene.busy(), 23), 4);
    }

    static void hours24IsRefused() {
        Refusal.outside(Scene::busy, rows -> hours(rows, 24));
    }

    static void hours99IsRefused() {
        Refusal.outside(Scene::busy, rows -> hours(rows, 99));
    }

    static void hours100IsAllowed() {
        Check.same("agree", hours(Scene.busy(), 100), 4);
    }

    static void hours124IsRefused() {
        Refusal.outside(Scene::busy, rows -> hours(rows, 124));
    }

    static void hours2300IsAllowed() {
        Check.same("agree", hours(Scene.busy(), 2300), 4);
    }

    static void hours2323IsAllowed() {
        Check.same("agree", hours(Scene.busy(), 2323), 4);
    }

    static void hours2324IsRefused() {
        Refusal.outside(Scene::busy, rows -> hours(rows, 2324));
    }

    static void hours2399IsRefused() {
        Refusal.outside(Scene::busy, rows -> hours(rows, 2399));
    }

    static void hours2400IsRefused() {
        Refusal.outside(Scene::busy, rows -> hours(rows, 2400));
    }

    static void hoursMinus100IsRefused() {
        Refusal.outside(Scene::busy, rows -> hours(rows, -100));
    }

    static void hoursMinus2323IsRefused() {
        Refusal.outside(Scene::busy, rows -> hours(rows, -2323));
    }

    static void hoursFarBelowIsRefused() {
        Refusal.outside(Scene::busy, rows -> hours(rows, Integer.MIN_VALUE));
    }

    static void hoursFarAboveIsRefused() {
        Refusal.outside(Scene::busy, rows -> hours(rows, Integer.MAX_VALUE));
    }

    static void everyPairOfHoursIsAllowedAndNoOther() {
        for (int first = 0; first < 25; first++) {
            for (int last = 0; last < 25; last++) {
                int hours = 100 * first + last;
                AidRows rows = Scene.houses(1);
                if (first < 24 && last < 24) {
                    Check.same("hours " + hours, hours(rows, hours), 0);
                } else {
                    Check.outside("hours " + hours, () -> hours(rows, hours));
                }
            }
        }
    }

    static void units0IsRefused() {
        Refusal.outside(Scene::busy, rows -> units(rows, 0));
    }

    static void units1IsAllowed() {
        Check.same("agree", units(Scene.busy(), 1), 4);
    }

    static void units20IsAllowed() {
        Check.same("agree", units(Scene.busy(), 20), 4);
    }

    static void units21IsRefused() {
        Refusal.outside(Scene::busy, rows -> units(rows, 21));
    }

    static void unitsMinus1IsRefused() {
        Refusal.outside(Scene::busy, rows -> units(rows, -1));
    }

    static void unitsFarBelowIsRefused() {
        Refusal.outside(Scene::busy, rows -> units(rows, Integer.MIN_VALUE));
    }

    static void unitsFarAboveIsRefused() {
        Refusal.outside(Scene::busy, rows -> units(rows, Integer.MAX_VALUE));
    }

    /** House 0 has minutes 100 .. 199 of kind 9. */
    private static AidRows taken() {
        AidRows rows = Scene.busy();
        rows.agree(0, 9, 100, 200, Scene.ALL_DAY, 1);
        return rows;
    }

    static void sameMinutesAreRefused() {
        Refusal.notNow(Promise03Test::taken, rows -> span(rows, 100, 200));
    }

    static void oneSharedMinuteAtItsBeginIsRefused() {
        Refusal.notNow(Promise03Test::taken, rows -> span(rows, 0, 101));
    }

    static void noSharedMinuteAtItsBeginIsAllowed() {
        Check.same("agree", span(taken(), 0, 100), 5);
    }

    static void oneSharedMinuteAtItsEndIsRefused() {
        Refusal.notNow(Promise03Test::taken, rows -> span(rows, 199, LAST));
    }

    static void noSharedMinuteAtItsEndIsAllowed() {
        Check.same("agree", span(taken(), 200, LAST), 5);
    }

    static void oneMinuteWithinIsRefused() {
        Refusal.notNow(Promise03Test::taken, rows -> span(rows, 150, 151));
    }

    static void minutesAroundAreRefused() {
        Refusal.notNow(Promise03Test::taken, rows -> span(rows, 0, LAST));
    }

    static void sharedMinutesOfAnotherHouseAreAllowed() {
        Check.same("agree", taken().agree(1, 9, 100, 200, Scene.ALL_DAY, 1), 5);
    }

    static void sharedMinutesOfAnotherKindAreAllowed() {
        Check.same("agree", taken().agree(0, 8, 100, 200, Scene.ALL_DAY, 1), 5);
    }

    static void sharedMinutesAtOtherHoursAreRefused() {
        Refusal.notNow(Promise03Test::taken, rows -> rows.agree(0, 9, 100, 200, 1212, 1));
    }

    static void sharedMinutesThatArePastAreRefused() {
        Refusal.notNow(() -> {
            AidRows rows = taken();
            rows.tick(1000);
            return rows;
        }, rows -> span(rows, 199, 201));
    }

    static void everyEarlierAgreementIsLookedAt() {
        for (int i = 0; i < 29; i++) {
            int minute = i;
            Check.notNow("minute " + i, () -> span(Scene.agreements(29), minute, minute + 1));
        }
    }

    static void thirtiethHasRoom() {
        Check.same("agree", span(Scene.agreements(29), 29, 30), 29);
    }

    static void thirtyFirstHasNoRoom() {
        Refusal.noRoom(() -> Scene.agreements(30), rows -> span(rows, 30, 31));
    }

    static void thirtyFirstOfAnotherKindHasNoRoom() {
        Refusal.noRoom(() -> Scene.agreements(30), rows -> agree(rows, 0, 0));
    }

    static void pastAgreementsMakeNoRoom() {
        Refusal.noRoom(() -> {
            AidRows rows = Scene.agreements(30);
            rows.tick(100);
            return rows;
        }, rows -> span(rows, 100, 101));
    }

    static void firstAgreementIs0() {
        Check.same("agree", span(Scene.houses(1), 0, 1), 0);
    }

    static void refusedAgreementTakesNoNumber() {
        AidRows rows = Scene.busy();
        Check.unknown("a wrong kind", () -> agree(rows, 0, 10));
        Check.outside("wrong units", () -> units(rows, 0));
        Check.notNow("shared minutes", () -> agree(rows, 0, 0));
        Check.same("the next one", agree(rows, 0, 9), 4);
    }

    static void refusedAgreementDoesNotHold() {
        AidRows rows = Scene.houses(1);
        Check.outside("units", () -> rows.agree(0, 9, 0, 9, Scene.ALL_DAY, 21));
        Check.same("a house", Scene.finds(rows, 9), 0);
    }

    static void houseIsUnknownBeforeMinutesAreOutside() {
        Refusal.unknown(Scene::busy, rows -> rows.agree(3, 9, 5, 5, 24, 0));
    }

    static void kindIsUnknownBeforeMinutesAreOutside() {
        Refusal.unknown(Scene::busy, rows -> rows.agree(0, 10, 5, 5, 24, 0));
    }

    static void houseIsUnknownBeforeNoRoom() {
        Refusal.unknown(() -> Scene.agreements(30), rows -> agree(rows, 1, 9));
    }

    static void kindIsUnknownBeforeNoRoom() {
        Refusal.unknown(() -> Scene.agreements(30), rows -> agree(rows, 0, 10));
    }

    static void minutesAreOutsideBeforeTheyAreShared() {
        Refusal.outside(Promise03Test::taken, rows -> span(rows, 150, LAST + 1));
    }

    static void hoursAreOutsideBeforeMinutesAreShared() {
        Refusal.outside(Promise03Test::taken, rows -> rows.agree(0, 9, 100, 200, 24, 1));
    }

    static void unitsAreOutsideBeforeMinutesAreShared() {
        Refusal.outside(Promise03Test::taken, rows -> rows.agree(0, 9, 100, 200, Scene.ALL_DAY, 0));
    }

    static void unitsAreOutsideBeforeNoRoom() {
        Refusal.outside(() -> Scene.agreements(30), rows -> units(rows, 21));
    }

    static void minutesAreSharedBeforeNoRoom() {
        Refusal.notNow(() -> Scene.agreements(30), rows -> span(rows, 29, 31));
    }

    static void minuteBeforeItsFirstIsNotInIt() {
        Check.same("holds", Scene.holds(10, 20, Scene.ALL_DAY, 9), 0);
    }

    static void firstMinuteIsInIt() {
        Check.same("holds", Scene.holds(10, 20, Scene.ALL_DAY, 10), 1);
    }

    static void minuteBeforeItsLastIsInIt() {
        Check.same("holds", Scene.holds(10, 20, Scene.ALL_DAY, 19), 1);
    }

    static void lastMinuteIsNotInIt() {
        Check.same("holds", Scene.holds(10, 20, Scene.ALL_DAY, 20), 0);
    }

    static void minute99998CanBeInOne() {
        Check.same("holds", Scene.holds(0, LAST, Scene.ALL_DAY, LAST - 1), 1);
    }

    static void minute99999IsInNone() {
        Check.same("holds", Scene.holds(0, LAST, Scene.ALL_DAY, LAST), 0);
    }

    static void minuteBeforeTheFirstHourIsNotInIt() {
        Check.same("1:59", Scene.holds(0, LAST, 203, 119), 0);
    }

    static void firstHourIsInItFromItsFirstMinute() {
        Check.same("2:00", Scene.holds(0, LAST, 203, 120), 1);
    }

    static void lastHourIsInItToItsLastMinute() {
        Check.same("3:59", Scene.holds(0, LAST, 203, 239), 1);
    }

    static void minuteBehindTheLastHourIsNotInIt() {
        Check.same("4:00", Scene.holds(0, LAST, 203, 240), 0);
    }

    static void oneHourAloneIsThatHour() {
        Check.same("11:59", Scene.holds(0, LAST, 1212, 719), 0);
        Check.same("12:00", Scene.holds(0, LAST, 1212, 720), 1);
        Check.same("12:59", Scene.holds(0, LAST, 1212, 779), 1);
        Check.same("13:00", Scene.holds(0, LAST, 1212, 780), 0);
    }

    static void throughMidnightIsNotBeforeItsFirstHour() {
        Check.same("21:59", Scene.holds(0, LAST, 2201, 1319), 0);
    }

    static void throughMidnightIsAtItsFirstHour() {
        Check.same("22:00", Scene.holds(0, LAST, 2201, 1320), 1);
    }

    static void throughMidnightIsBeforeMidnight() {
        Check.same("23:59", Scene.holds(0, LAST, 2201, 1439), 1);
    }

    static void throughMidnightIsAtMidnight() {
        Check.same("24:00", Scene.holds(0, LAST, 2201, 1440), 1);
    }

    static void throughMidnightIsAtItsLastHour() {
        Check.same("1:59", Scene.holds(0, LAST, 2201, 119), 1);
    }

    static void throughMidnightIsNotBehindItsLastHour() {
        Check.same("2:00", Scene.holds(0, LAST, 2201, 120), 0);
    }

    static void throughMidnightFromTheLastHourToTheFirst() {
        Check.same("22:59", Scene.holds(0, LAST, 2300, 1379), 0);
        Check.same("23:00", Scene.holds(0, LAST, 2300, 1380), 1);
        Check.same("0:59", Scene.holds(0, LAST, 2300, 59), 1);
        Check.same("1:00", Scene.holds(0, LAST, 2300, 60), 0);
    }

    static void secondHourOneLessIsAllDay() {
        for (int hour = 0; hour < 24; hour++) {
            Check.same("hour " + hour, Scene.holds(0, LAST, 1211, 60 * hour), 1);
        }
    }

    static void from0To23IsAllDay() {
        for (int hour = 0; hour < 24; hour++) {
            Check.same("hour " + hour, Scene.holds(0, LAST, Scene.ALL_DAY, 60 * hour + 59), 1);
        }
    }

    static void hoursComeAgainOnTheNextDay() {
        Check.same("25:59", Scene.holds(0, LAST, 203, 1440 + 119), 0);
        Check.same("26:00", Scene.holds(0, LAST, 203, 1440 + 120), 1);
        Check.same("27:59", Scene.holds(0, LAST, 203, 1440 + 239), 1);
        Check.same("28:00", Scene.holds(0, LAST, 203, 1440 + 240), 0);
    }

    static void hoursComeAgainOnTheLastDay() {
        int day = 69 * 1440;
        Check.same("1:59", Scene.holds(0, LAST, 203, day + 119), 0);
        Check.same("2:00", Scene.holds(0, LAST, 203, day + 120), 1);
        Check.same("3:59", Scene.holds(0, LAST, 203, day + 239), 1);
        Check.same("4:00", Scene.holds(0, LAST, 203, day + 240), 0);
    }

    static void hoursCountFromMidnightNotFromTheFirstMinute() {
        Check.same("2:30", Scene.holds(150, LAST, 0, 150), 0);
        Check.same("2:30", Scene.holds(150, LAST, 202, 150), 1);
    }

    static void minutesAndHoursMustBothHold() {
        Check.same("the hour before the minutes", Scene.holds(130, LAST, 202, 129), 0);
        Check.same("both", Scene.holds(130, LAST, 202, 130), 1);
        Check.same("the hour behind the minutes", Scene.holds(0, 130, 202, 130), 0);
    }

    static void unitsLentAtOnceReachWhatWasAgreed() {
        AidRows rows = Scene.houses(1);
        rows.agree(0, 0, 0, LAST, Scene.ALL_DAY, 3);
        rows.ask(0, 5, 9);
        Check.same("as many", rows.message(0, 0, 0, 3, 0), 1);
        rows.ask(0, 5, 9);
        Check.same("one more", rows.message(1, 0, 1, 1, 0), 4);
    }

    static void agreementMadeLaterIsFoundByAnAskThatGoesOn() {
        AidRows rows = Scene.houses(2);
        agree(rows, 1, 9);
        rows.ask(9, 1, 5);
        Check.same("at the house that has one", rows.askAt(0, 1), 1);
        agree(rows, 0, 9);
        rows.tick(5);
        Check.same("at the one that has one now", rows.askAt(0, 1), 0);
    }

    static void agreementMadeLaterDoesNotOpenAnAskAgain() {
        AidRows rows = Scene.houses(1);
        rows.ask(9, 1, 5);
        agree(rows, 0, 9);
        Check.same("given up", rows.askAt(0, 0), 2);
    }
}
