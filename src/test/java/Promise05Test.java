/** Promise 5 (message): what it refuses, its five states, and what a yes and a no do. */
public final class Promise05Test {
    private static final int LAST = Scene.LAST_MINUTE;

    public static void main(String[] args) throws ReflectiveOperationException {
        Check.cases("Promise 5", Promise05Test.class);
    }

    // Unknown asks and houses. In the busy scene ask 3 for 2 units is at house 1, which has 2 for its kind.

    static void askMinus1IsUnknown() {
        Refusal.unknown(Scene::busy, rows -> rows.message(-1, 1, 9, 1, 0));
    }

    static void ask0IsKnown() {
        Check.same("state", Scene.asked(1).message(0, 0, 9, 1, 0), 1);
    }

    static void lastAskIsKnown() {
        Check.same("state", Scene.busy().message(3, 1, 9, 1, 0), 1);
    }

    static void askBehindTheLastIsUnknown() {
        Refusal.unknown(Scene::busy, rows -> rows.message(4, 1, 9, 1, 0));
    }

    static void ask29IsKnownWhenAllAreThere() {
        AidRows rows = Scene.asks(29);
        rows.ask(0, 1, 5);
        Check.same("state", rows.message(29, 0, 9, 1, 0), 1);
    }

    static void ask30IsUnknownWhenAllAreThere() {
        Refusal.unknown(() -> Scene.asks(30), rows -> rows.message(30, 0, 9, 1, 0));
    }

    static void askFarBelowIsUnknown() {
        Refusal.unknown(Scene::busy, rows -> rows.message(Integer.MIN_VALUE, 1, 9, 1, 0));
    }

    static void askFarAboveIsUnknown() {
        Refusal.unknown(Scene::busy, rows -> rows.message(Integer.MAX_VALUE, 1, 9, 1, 0));
    }

    static void houseMinus1IsUnknown() {
        Refusal.unknown(Scene::busy, rows -> rows.message(3, -1, 9, 1, 0));
    }

    static void house0IsKnown() {
        Check.same("state", Scene.busy().message(3, 0, 9, 1, 0), 3);
    }

    static void lastHouseIsKnown() {
        Check.same("state", Scene.busy().message(3, 2, 9, 1, 0), 5);
    }

    static void houseBehindTheLastIsUnknown() {
        Refusal.unknown(Scene::busy, rows -> rows.message(3, 3, 9, 1, 0));
    }

    static void house7IsKnownWhenAllAreThere() {
        AidRows rows = Scene.houses(8);
        rows.agree(7, 0, 0, 9, Scene.ALL_DAY, 1);
        rows.ask(0, 1, 5);
        Check.same("state", rows.message(0, 7, 9, 1, 0), 1);
    }

    static void house8IsUnknownWhenAllAreThere() {
        Refusal.unknown(() -> {
            AidRows rows = Scene.lenders(8);
            rows.ask(0, 1, 5);
            return rows;
        }, rows -> rows.message(0, 8, 9, 1, 0));
    }

    static void houseFarBelowIsUnknown() {
        Refusal.unknown(Scene::busy, rows -> rows.message(3, Integer.MIN_VALUE, 9, 1, 0));
    }

    static void houseFarAboveIsUnknown() {
        Refusal.unknown(Scene::busy, rows -> rows.message(3, Integer.MAX_VALUE, 9, 1, 0));
    }

    // Numbers, n and minutes outside.

    static void numberMinus1IsRefused() {
        Refusal.outside(Scene::busy, rows -> rows.message(3, 1, -1, 1, 0));
    }

    static void number0IsAllowed() {
        Check.same("state", Scene.asked(1).message(0, 0, 0, 1, 0), 1);
    }

    static void number999IsAllowed() {
        Check.same("state", Scene.asked(1).message(0, 0, 999, 1, 0), 1);
    }

    static void number1000IsRefused() {
        Refusal.outside(Scene::busy, rows -> rows.message(3, 1, 1000, 1, 0));
    }

    static void numberOfANoIsRefusedToo() {
        Refusal.outside(Scene::busy, rows -> rows.message(3, 1, 1000, 0, 0));
    }

    static void numberFarBelowIsRefused() {
        Refusal.outside(Scene::busy, rows -> rows.message(3, 1, Integer.MIN_VALUE, 1, 0));
    }

    static void numberFarAboveIsRefused() {
        Refusal.outside(Scene::busy, rows -> rows.message(3, 1, Integer.MAX_VALUE, 1, 0));
    }

    static void nMinus1IsRefused() {
        Refusal.outside(Scene::busy, rows -> rows.message(3, 1, 9, -1, 0));
    }

    static void n0IsANo() {
        AidRows rows = Scene.asked(1);
        Check.same("state", rows.message(0, 0, 9, 0, 0), 1);
        Check.same("no loan", rows.count(1), 0);
        Check.same("given up", rows.askAt(0, 0), 2);
    }

    static void n1IsAYes() {
        AidRows rows = Scene.asked(1);
        Check.same("state", rows.message(0, 0, 9, 1, 0), 1);
        Check.same("a loan", rows.count(1), 1);
        Check.same("filled", rows.askAt(0, 0), 1);
    }

    static void n20IsAllowed() {
        AidRows rows = Scene.asked(20);
        Check.same("state", rows.message(0, 0, 9, 20, 0), 1);
        Check.same("loans", rows.count(1), 20);
    }

    static void n21IsRefused() {
        Refusal.outside(() -> Scene.asked(20), rows -> rows.message(0, 0, 9, 21, 0));
    }

    static void nFarBelowIsRefused() {
        Refusal.outside(Scene::busy, rows -> rows.message(3, 1, 9, Integer.MIN_VALUE, 0));
    }

    static void nFarAboveIsRefused() {
        Refusal.outside(Scene::busy, rows -> rows.message(3, 1, 9, Integer.MAX_VALUE, 0));
    }

    static void minutesMinus1OfAYesIsRefused() {
        Refusal.outside(Scene::busy, rows -> rows.message(3, 1, 9, 1, -1));
    }

    static void minutes0OfAYesIsAllowed() {
        AidRows rows = Scene.asked(1);
        rows.tick(7);
        Check.same("state", rows.message(0, 0, 9, 1, 0), 1);
        Check.same("it begins now", rows.loanAt(0, 4), 7);
    }

    static void minutes999OfAYesIsAllowed() {
        AidRows rows = Scene.asked(1);
        rows.tick(7);
        Check.same("state", rows.message(0, 0, 9, 1, 999), 1);
        Check.same("it begins then", rows.loanAt(0, 4), 1006);
    }

    static void minutes1000OfAYesIsRefused() {
        Refusal.outside(Scene::busy, rows -> rows.message(3, 1, 9, 1, 1000));
    }

    static void minutesFarBelowOfAYesIsRefused() {
        Refusal.outside(Scene::busy, rows -> rows.message(3, 1, 9, 1, Integer.MIN_VALUE));
    }

    static void minutesFarAboveOfAYesIsRefused() {
        Refusal.outside(Scene::busy, rows -> rows.message(3, 1, 9, 1, Integer.MAX_VALUE));
    }

    static void minutesOfANoDoNotMatter() {
        for (int minutes : new int[] {-1, 0, 999, 1000, Integer.MIN_VALUE, Integer.MAX_VALUE}) {
            Check.same("no, " + minutes, Scene.busy().message(3, 1, 9, 0, minutes), 1);
            Check.same("a late no, " + minutes, Scene.busy().message(3, 0, 9, 0, minutes), 3);
            Check.same("a repeated no, " + minutes, Scene.busy().message(3, 1, 0, 0, minutes), 2);
            Check.same("a no over a cut line, " + minutes, Scene.busy().message(3, 2, 9, 0, minutes), 5);
        }
    }

    // The first refusal that is so.

    static void askIsUnknownBeforeTheNumberIsOutside() {
        Refusal.unknown(Scene::busy, rows -> rows.message(4, 1, 1000, 1, 0));
    }

    static void houseIsUnknownBeforeTheNumberIsOutside() {
        Refusal.unknown(Scene::busy, rows -> rows.message(3, 3, 1000, 1, 0));
    }

    static void askIsUnknownBeforeNIsOutside() {
        Refusal.unknown(Scene::busy, rows -> rows.message(4, 1, 9, 21, 0));
    }

    static void houseIsUnknownBeforeMinutesAreOutside() {
        Refusal.unknown(Scene::busy, rows -> rows.message(3, 3, 9, 1, 1000));
    }

    static void askIsUnknownBeforeNoRoom() {
        Refusal.unknown(() -> Scene.loans(100), rows -> rows.message(Scene.SPARE_ASK + 1, 0, 9, 1, 0));
    }

    static void nIsOutsideBeforeNoRoom() {
        Refusal.outside(() -> Scene.loans(100), rows -> rows.message(Scene.SPARE_ASK, 0, 9, 21, 0));
    }

    static void minutesAreOutsideBeforeNoRoom() {
        Refusal.outside(() -> Scene.loans(100), rows -> rows.message(Scene.SPARE_ASK, 0, 9, 1, 1000));
    }

    static void askIsUnknownBeforeACutLine() {
        Refusal.unknown(Scene::busy, rows -> rows.message(4, 2, 9, 1, 0));
    }

    static void numberIsOutsideBeforeACutLine() {
        Refusal.outside(Scene::busy, rows -> rows.message(3, 2, 1000, 1, 0));
    }

    static void nIsOutsideBeforeACutLine() {
        Refusal.outside(Scene::busy, rows -> rows.message(3, 2, 9, 21, 0));
    }

    static void minutesAreOutsideBeforeACutLine() {
        Refusal.outside(Scene::busy, rows -> rows.message(3, 2, 9, 1, 1000));
    }

    static void nIsOutsideBeforeARepeatedNumber() {
        Refusal.outside(Scene::busy, rows -> rows.message(3, 1, 0, 21, 0));
    }

    static void minutesAreOutsideBeforeARepeatedNumber() {
        Refusal.outside(Scene::busy, rows -> rows.message(3, 1, 0, 1, -1));
    }

    static void nIsOutsideBeforeLate() {
        Refusal.outside(Scene::busy, rows -> rows.message(2, 0, 9, 21, 0));
    }

    static void minutesAreOutsideBeforeTooMany() {
        Refusal.outside(Scene::busy, rows -> rows.message(3, 1, 9, 3, 1000));
    }

    // Room for loans.

    static void hundredthLoanHasRoom() {
        AidRows rows = Scene.loans(99);
        Check.same("state", rows.message(Scene.SPARE_ASK, 0, 9, 1, 0), 1);
        Check.same("the last loan's ask", rows.loanAt(99, 2), Scene.SPARE_ASK);
    }

    static void hundredFirstLoanHasNoRoom() {
        Refusal.noRoom(() -> Scene.loans(100), rows -> rows.message(Scene.SPARE_ASK, 0, 9, 1, 0));
    }

    static void asManyAsThereIsRoomForAreAllowed() {
        AidRows rows = Scene.loans(81);
        Check.same("state", rows.message(Scene.SPARE_ASK, 0, 9, 19, 0), 1);
        Check.same("loans", rows.count(1), 100);
    }

    static void oneMoreThanThereIsRoomForIsRefusedWhole() {
        Refusal.noRoom(() -> Scene.loans(81), rows -> rows.message(Scene.SPARE_ASK, 0, 9, 20, 0));
    }

    static void twentyMoreThan80AreAllowed() {
        AidRows rows = Scene.loans(80);
        Check.same("state", rows.message(4, 0, 9, 20, 0), 1);
        Check.same("loans", rows.count(1), 100);
    }

    static void endedLoansMakeNoRoom() {
        Refusal.noRoom(() -> {
            AidRows rows = Scene.loans(100);
            for (int loan = 0; loan < 100; loan++) {
                rows.end(loan);
            }
            return rows;
        }, rows -> rows.message(Scene.SPARE_ASK, 0, 9, 1, 0));
    }

    static void messageWithoutRoomLeavesItsNumberUnseen() {
        AidRows rows = Scene.loans(100);
        Check.noRoom("the message", () -> rows.message(Scene.SPARE_ASK, 0, 9, 1, 0));
        Check.same("seen", rows.seen(0, 9), 0);
        Check.same("the number is not repeated", rows.message(Scene.SPARE_ASK, 0, 9, 0, 0), 1);
    }

    static void noNeedsNoRoom() {
        Check.same("state", Scene.loans(100).message(Scene.SPARE_ASK, 0, 9, 0, 0), 1);
    }

    static void repeatedNeedsNoRoom() {
        Check.same("state", Scene.loans(100).message(Scene.SPARE_ASK, 0, 0, 1, 0), 2);
    }

    static void lateNeedsNoRoom() {
        Check.same("state", Scene.loans(100).message(0, 0, 9, 1, 0), 3);
    }

    static void tooManyNeedsNoRoom() {
        AidRows rows = Scene.loans(100);
        rows.ask(0, 1, 5);
        Check.same("more than the agreement has left", rows.message(6, 0, 9, 1, 0), 4);
        rows.ask(Scene.SPARE_KIND, 1, 5);
        Check.same("more than are asked for", rows.message(7, 0, 10, 2, 0), 4);
    }

    static void cutLineNeedsNoRoom() {
        AidRows rows = Scene.loans(100);
        rows.cut(0, true);
        Check.same("state", rows.message(Scene.SPARE_ASK, 0, 9, 1, 0), 5);
    }

    // State 2: a number of that house that was seen, whatever it says: nothing comes of it.

    static void repeatedChangesNothingButItsCount() {
        Check.same("state", Scene.busy().message(3, 1, 0, 1, 0), 2);
        Refusal.changesOnly(Scene::busy, rows -> rows.message(3, 1, 0, 1, 0), "count(4)");
    }

    static void repeatedNoChangesNothingButItsCount() {
        Check.same("state", Scene.busy().message(3, 1, 0, 0, 0), 2);
        Refusal.changesOnly(Scene::busy, rows -> rows.message(3, 1, 0, 0, 0), "count(4)");
    }

    static void sameMessageAgainIsRepeated() {
        AidRows rows = Scene.asked(5);
        rows.message(0, 0, 9, 5, 0);
        Check.same("state", rows.message(0, 0, 9, 5, 0), 2);
        Check.same("loans", rows.count(1), 5);
    }

    static void numberOfALateOneIsRepeated() {
        AidRows rows = Scene.busy();
        Check.same("late", rows.message(0, 1, 9, 1, 0), 3);
        Check.same("state", rows.message(3, 1, 9, 1, 0), 2);
    }

    static void numberOfTooManyIsRepeated() {
        AidRows rows = Scene.asked(1);
        Check.same("too many", rows.message(0, 0, 9, 2, 0), 4);
        Check.same("state", rows.message(0, 0, 9, 1, 0), 2);
    }

    static void numberOfANoIsRepeated() {
        AidRows rows = Scene.asked(1);
        rows.ask(0, 1, 5);
        Check.same("no", rows.message(0, 0, 9, 0, 0), 1);
        Check.same("state", rows.message(1, 0, 9, 1, 0), 2);
    }

    static void numberOfARepeatedOneIsRepeatedAgain() {
        AidRows rows = Scene.lent(1, 0);
        Check.same("once", rows.message(0, 0, 0, 1, 0), 2);
        Check.same("twice", rows.message(0, 0, 0, 1, 0), 2);
        Check.same("count", rows.count(4), 2);
    }

    static void numberThatWasNotHeardIsNotRepeated() {
        AidRows rows = Scene.asked(1);
        rows.cut(0, true);
        Check.same("not heard", rows.message(0, 0, 9, 1, 0), 5);
        rows.cut(0, false);
        Check.same("state", rows.message(0, 0, 9, 1, 0), 1);
    }

    static void numberThatWasRefusedIsNotRepeated() {
        AidRows rows = Scene.asked(1);
        Check.outside("minutes", () -> rows.message(0, 0, 9, 1, 1000));
        Check.same("state", rows.message(0, 0, 9, 1, 0), 1);
    }

    static void numberOfAnotherHouseIsNotRepeated() {
        AidRows rows = Scene.lenders(2);
        rows.ask(0, 2, 5);
        Check.same("house 0", rows.message(0, 0, 9, 1, 0), 1);
        Check.same("house 1", rows.message(0, 1, 9, 1, 0), 1);
    }

    static void numberOneAboveIsNotRepeated() {
        AidRows rows = Scene.lenders(1);
        for (int number = 0; number < 20; number++) {
            rows.ask(0, 1, 5);
            Check.same("number " + number, rows.message(number, 0, number, 1, 0), 1);
        }
    }

    static void repeatedIsToldBeforeLate() {
        AidRows rows = Scene.lent(1, 0);
        Check.same("of a filled ask", rows.message(0, 0, 0, 1, 0), 2);
    }

    static void repeatedIsToldBeforeTooMany() {
        Check.same("state", Scene.busy().message(1, 1, 0, 20, 0), 2);
    }

    static void numberIsRepeatedForever() {
        AidRows rows = Scene.lent(1, 0);
        Scene.tickTo(rows, LAST);
        Check.same("state", rows.message(0, 0, 0, 0, 0), 2);
    }

    // State 3: the ask is not open, or not at that house: the number is seen.

    static void lateForAFilledAsk() {
        Check.same("state", Scene.busy().message(0, 0, 9, 1, 0), 3);
        Refusal.changesOnly(Scene::busy, rows -> rows.message(0, 0, 9, 1, 0), "seen(0, 9)");
    }

    static void lateForAnAskThatIsGivenUp() {
        Check.same("state", Scene.busy().message(2, 1, 9, 1, 0), 3);
        Refusal.changesOnly(Scene::busy, rows -> rows.message(2, 1, 9, 1, 0), "seen(1, 9)");
    }

    static void lateFromAHouseWhereTheAskIsNotYet() {
        Check.same("state", Scene.busy().message(1, 0, 9, 1, 0), 3);
        Refusal.changesOnly(Scene::busy, rows -> rows.message(1, 0, 9, 1, 0), "seen(0, 9)");
    }

    static void lateFromAHouseWhereTheAskIsNoMore() {
        AidRows rows = Scene.lenders(2);
        rows.ask(0, 1, 5);
        rows.tick(5);
        Check.same("its first house", rows.message(0, 0, 9, 1, 0), 3);
        Check.same("its house now", rows.message(0, 1, 9, 1, 0), 1);
    }

    static void lateNoChangesNothingElse() {
        Check.same("state", Scene.busy().message(1, 0, 9, 0, 0), 3);
        Refusal.changesOnly(Scene::busy, rows -> rows.message(1, 0, 9, 0, 0), "seen(0, 9)");
    }

    static void lateIsToldBeforeTooMany() {
        Check.same("state", Scene.busy().message(1, 0, 9, 20, 0), 3);
    }

    static void answerAMinuteBeforeThePatienceHasPassedCounts() {
        AidRows rows = Scene.asked(1);
        rows.tick(99);
        Check.same("state", rows.message(0, 0, 9, 1, 0), 1);
    }

    static void answerAsThePatienceHasPassedIsLate() {
        AidRows rows = Scene.asked(1);
        rows.tick(100);
        Check.same("state", rows.message(0, 0, 9, 1, 0), 3);
    }

    // State 4: more than are asked for still, or than the agreement has left, or none holds now.

    static void asManyAsAreAskedForCount() {
        Check.same("state", Scene.asked(5).message(0, 0, 9, 5, 0), 1);
    }

    static void oneMoreThanIsAskedForIsTooMany() {
        Check.same("state", Scene.asked(5).message(0, 0, 9, 6, 0), 4);
        Refusal.changesOnly(() -> Scene.asked(5), rows -> rows.message(0, 0, 9, 6, 0), "seen(0, 9)");
    }

    /** An ask for 5 that house 0 gave 2 to and that is at house 1 for the rest. */
    private static AidRows rest() {
        AidRows rows = Scene.lenders(2);
        rows.ask(0, 5, 100);
        rows.message(0, 0, 0, 2, 0);
        return rows;
    }

    static void asManyAsAreAskedForStillCount() {
        Check.same("state", rest().message(0, 1, 9, 3, 0), 1);
    }

    static void oneMoreThanIsAskedForStillIsTooMany() {
        Check.same("state", rest().message(0, 1, 9, 4, 0), 4);
        Refusal.changesOnly(Promise05Test::rest, rows -> rows.message(0, 1, 9, 4, 0), "seen(1, 9)");
    }

    static void endedLoansAreNotAskedForAgain() {
        AidRows rows = rest();
        rows.end(0);
        Check.same("state", rows.message(0, 1, 9, 4, 0), 4);
    }

    /** House 0 has agreed 5 units of which 2 are lent, and an ask 1 for 20 is there. */
    private static AidRows left3() {
        AidRows rows = Scene.houses(1);
        rows.agree(0, 0, 0, 1000, Scene.ALL_DAY, 5);
        rows.ask(0, 2, 100);
        rows.message(0, 0, 0, 2, 50);
        rows.ask(0, 20, 100);
        return rows;
    }

    static void asManyAsTheAgreementHasLeftCount() {
        Check.same("state", left3().message(1, 0, 9, 3, 0), 1);
    }

    static void oneMoreThanTheAgreementHasLeftIsTooMany() {
        Check.same("state", left3().message(1, 0, 9, 4, 0), 4);
        Refusal.changesOnly(Promise05Test::left3, rows -> rows.message(1, 0, 9, 4, 0), "seen(0, 9)");
    }

    static void endedLoanIsLeftAgain() {
        AidRows rows = left3();
        rows.end(0);
        Check.same("one more than is left", rows.message(1, 0, 8, 5, 0), 4);
        Check.same("as many", rows.message(1, 0, 9, 4, 0), 1);
    }

    static void loansOfAnotherAgreementTakeNothing() {
        AidRows rows = left3();
        rows.agree(0, 1, 0, 1000, Scene.ALL_DAY, 5);
        rows.ask(1, 5, 100);
        Check.same("state", rows.message(2, 0, 9, 5, 0), 1);
    }

    static void loansOfAnotherHouseTakeNothing() {
        AidRows rows = Scene.lenders(2);
        rows.ask(0, 20, 100);
        rows.message(0, 0, 0, 19, 0);
        rows.message(0, 1, 0, 0, 0);
        rows.ask(0, 20, 100);
        rows.message(1, 0, 1, 0, 0);
        Check.same("state", rows.message(1, 1, 9, 20, 0), 1);
    }

    /** House 0 has an agreement to minute 50, and an ask 0 waits there for longer. */
    private static AidRows until50(int minute) {
        AidRows rows = Scene.houses(1);
        rows.agree(0, 0, 0, 50, Scene.ALL_DAY, 5);
        rows.ask(0, 1, 500);
        rows.tick(minute);
        return rows;
    }

    static void yesAMinuteBeforeTheLastCounts() {
        Check.same("state", until50(49).message(0, 0, 9, 1, 0), 1);
    }

    static void yesAtTheLastMinuteHasNoAgreement() {
        Check.same("state", until50(50).message(0, 0, 9, 1, 0), 4);
        Refusal.changesOnly(() -> until50(50), rows -> rows.message(0, 0, 9, 1, 0), "seen(0, 9)");
    }

    static void noAtTheLastMinuteCounts() {
        AidRows rows = until50(50);
        Check.same("state", rows.message(0, 0, 9, 0, 0), 1);
        Check.same("given up", rows.askAt(0, 0), 2);
    }

    /** House 0 has an agreement for hours 23 and 0, and an ask 0 waits there. */
    private static AidRows night(int minute) {
        AidRows rows = Scene.houses(1);
        rows.agree(0, 0, 0, LAST, 2300, 5);
        rows.ask(0, 1, 500);
        rows.tick(minute);
        return rows;
    }

    static void yesAtTheLastHourCounts() {
        Check.same("0:59", night(59).message(0, 0, 9, 1, 0), 1);
    }

    static void yesBehindTheLastHourHasNoAgreement() {
        Check.same("1:00", night(60).message(0, 0, 9, 1, 0), 4);
        Refusal.changesOnly(() -> night(60), rows -> rows.message(0, 0, 9, 1, 0), "seen(0, 9)");
    }

    static void noBehindTheLastHourCounts() {
        Check.same("1:00", night(60).message(0, 0, 9, 0, 0), 1);
    }

    static void nextAgreementOfTheHouseHoldsNow() {
        AidRows rows = Scene.houses(1);
        rows.agree(0, 0, 0, 50, Scene.ALL_DAY, 5);
        rows.agree(0, 0, 50, 100, Scene.ALL_DAY, 2);
        rows.ask(0, 5, 500);
        rows.tick(50);
        Check.same("more than the next one has", rows.message(0, 0, 8, 3, 0), 4);
        Check.same("as many as it has", rows.message(0, 0, 9, 2, 0), 1);
        Check.same("its loan", rows.loanAt(0, 3), 1);
    }

    static void noIsNeverTooMany() {
        AidRows rows = Scene.lent(20, 0);
        rows.ask(0, 1, 5);
        Check.same("state", rows.message(1, 0, 9, 0, 0), 1);
    }

    static void tooManyDoesNotStopThePatience() {
        AidRows rows = Scene.asked(5);
        rows.tick(50);
        rows.message(0, 0, 9, 6, 0);
        Check.same("not yet", rows.tick(49), 0);
        Check.same("it goes on", rows.tick(1), 1);
    }

    // State 5: over a line that is cut it is not heard at all.

    static void cutLineChangesNothingButItsCount() {
        Check.same("state", Scene.busy().message(1, 2, 9, 1, 0), 5);
        Refusal.changesOnly(Scene::busy, rows -> rows.message(1, 2, 9, 1, 0), "count(3)");
    }

    /** The busy scene, with the line of house 1 cut too. */
    private static AidRows busyCut() {
        AidRows rows = Scene.busy();
        rows.cut(1, true);
        return rows;
    }

    static void yesThatWouldCountIsNotHeard() {
        Check.same("state", busyCut().message(3, 1, 9, 1, 0), 5);
        Refusal.changesOnly(Promise05Test::busyCut, rows -> rows.message(3, 1, 9, 1, 0), "count(3)");
    }

    static void noThatWouldCountIsNotHeard() {
        Check.same("state", busyCut().message(3, 1, 9, 0, 0), 5);
        Refusal.changesOnly(Promise05Test::busyCut, rows -> rows.message(3, 1, 9, 0, 0), "count(3)");
    }

    static void repeatedOverACutLineIsNotHeard() {
        Check.same("state", busyCut().message(3, 1, 0, 1, 0), 5);
        Refusal.changesOnly(Promise05Test::busyCut, rows -> rows.message(3, 1, 0, 1, 0), "count(3)");
    }

    static void tooManyOverACutLineIsNotHeard() {
        Check.same("state", busyCut().message(3, 1, 9, 20, 0), 5);
        Refusal.changesOnly(Promise05Test::busyCut, rows -> rows.message(3, 1, 9, 20, 0), "count(3)");
    }

    static void anotherHousesCutLineDoesNotMatter() {
        Check.same("state", Scene.busy().message(3, 1, 9, 1, 0), 1);
    }

    static void lineThatIsWholeAgainIsHeard() {
        AidRows rows = busyCut();
        rows.cut(1, false);
        Check.same("state", rows.message(3, 1, 9, 1, 0), 1);
    }

    static void answerToALostAskCounts() {
        AidRows rows = Scene.lenders(1);
        rows.cut(0, true);
        rows.ask(0, 1, 100);
        rows.cut(0, false);
        Check.same("state", rows.message(0, 0, 9, 1, 0), 1);
        Check.same("filled", rows.askAt(0, 0), 1);
    }

    // State 1: what a no and a yes do.

    static void noMakesTheAskGoOn() {
        AidRows rows = Scene.lenders(2);
        rows.ask(0, 5, 100);
        rows.tick(30);
        Check.same("state", rows.message(0, 0, 9, 0, 0), 1);
        Check.ask("at the next house", rows, 0, 0, 1, 30, 0, 2, 0);
    }

    static void noOfTheLastHouseGivesTheAskUp() {
        AidRows rows = Scene.asked(5);
        rows.message(0, 0, 9, 0, 0);
        Check.ask("given up", rows, 0, 2, -1, 0, 0, 1, 0);
    }

    static void noMakesThePatienceBeginAgain() {
        AidRows rows = Scene.lenders(2);
        rows.ask(0, 5, 100);
        rows.tick(99);
        rows.message(0, 0, 9, 0, 0);
        Check.same("not yet", rows.tick(99), 0);
        Check.same("now", rows.tick(1), 1);
    }

    static void noMakesTheAskGoOnOverACutLine() {
        AidRows rows = Scene.lenders(2);
        rows.ask(0, 5, 100);
        rows.cut(1, true);
        rows.message(0, 0, 9, 0, 0);
        Check.ask("lost", rows, 0, 0, 1, 0, 0, 2, 1);
    }

    static void yesForAllFillsTheAsk() {
        AidRows rows = Scene.asked(5);
        rows.message(0, 0, 9, 5, 0);
        Check.ask("filled", rows, 0, 1, -1, 0, 5, 1, 0);
    }

    static void yesForAllButOneMakesTheAskGoOn() {
        AidRows rows = Scene.lenders(2);
        rows.ask(0, 5, 100);
        rows.tick(30);
        rows.message(0, 0, 9, 4, 0);
        Check.ask("at the next house for one", rows, 0, 0, 1, 30, 4, 2, 0);
    }

    static void yesForTheRestFillsTheAsk() {
        AidRows rows = rest();
        rows.message(0, 1, 9, 3, 0);
        Check.ask("filled", rows, 0, 1, -1, 0, 5, 2, 0);
    }

    static void yesForSomeOfTheLastHouseGivesTheAskUp() {
        AidRows rows = Scene.asked(5);
        rows.message(0, 0, 9, 4, 0);
        Check.ask("given up with four", rows, 0, 2, -1, 0, 4, 1, 0);
        Check.same("they are lent", rows.count(1), 4);
    }

    static void yesMakesAsManyLoans() {
        AidRows rows = rest();
        rows.tick(10);
        rows.message(0, 1, 9, 3, 15);
        for (int i = 0; i < 3; i++) {
            Check.loan("of house 1", rows, 2 + i, 1, 100 + i, 0, 1, 25, -1, 0);
        }
        Check.unknown("no more", () -> rows.loanAt(5, 0));
    }

    static void arrivalMayBeBehindMinute99999() {
        AidRows rows = Scene.lenders(1);
        Scene.tickTo(rows, LAST - 1);
        rows.ask(0, 1, 5);
        Check.same("state", rows.message(0, 0, 9, 1, 999), 1);
        Check.same("it begins", rows.loanAt(0, 4), LAST + 998);
    }

    static void arrivalMayBeBehindTheAgreement() {
        AidRows rows = until50(1);
        Check.same("state", rows.message(0, 0, 9, 1, 999), 1);
        Check.same("it begins", rows.loanAt(0, 4), 1000);
    }
}
