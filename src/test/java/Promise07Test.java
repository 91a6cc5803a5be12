/** Promise 7 (tick): 1 .. 2,000 minutes, not beyond 99,999; loans end by agreements, asks go on by patience. */
public final class Promise07Test {
    private static final int LAST = Scene.LAST_MINUTE;

    public static void main(String[] args) throws ReflectiveOperationException {
        Check.cases("Promise 7", Promise07Test.class);
    }

    static void minutesMinus1IsRefused() {
        Refusal.outside(Scene::busy, rows -> rows.tick(-1));
    }

    static void minutes0IsRefused() {
        Refusal.outside(Scene::busy, rows -> rows.tick(0));
    }

    static void minutes1IsAllowed() {
        AidRows rows = Scene.busy();
        rows.tick(1);
        Check.same("clock", rows.count(0), 11);
    }

    static void minutes2000IsAllowed() {
        AidRows rows = Scene.busy();
        rows.tick(2000);
        Check.same("clock", rows.count(0), 2010);
    }

    static void minutes2001IsRefused() {
        Refusal.outside(Scene::busy, rows -> rows.tick(2001));
    }

    static void minutesFarBelowIsRefused() {
        Refusal.outside(Scene::busy, rows -> rows.tick(Integer.MIN_VALUE));
    }

    static void minutesFarAboveIsRefused() {
        Refusal.outside(Scene::busy, rows -> rows.tick(Integer.MAX_VALUE));
    }

    private static AidRows lenderAt(int minute) {
        AidRows rows = Scene.lent(1, 0);
        Scene.tickTo(rows, minute);
        return rows;
    }

    static void minute99999IsReachedByOneMinute() {
        AidRows rows = lenderAt(LAST - 1);
        rows.tick(1);
        Check.same("clock", rows.count(0), LAST);
    }

    static void minute100000IsNotReachedByTwoMinutes() {
        Refusal.outside(() -> lenderAt(LAST - 1), rows -> rows.tick(2));
    }

    static void minute100000IsNotReachedByOneMinute() {
        Refusal.outside(() -> lenderAt(LAST), rows -> rows.tick(1));
    }

    static void minute99999IsReachedBy2000Minutes() {
        AidRows rows = lenderAt(LAST - 2000);
        rows.tick(2000);
        Check.same("clock", rows.count(0), LAST);
    }

    static void minute100000IsNotReachedBy2000Minutes() {
        Refusal.outside(() -> lenderAt(LAST - 1999), rows -> rows.tick(2000));
    }

    static void minutesFarAboveAreRefusedAtTheLastMinute() {
        Refusal.outside(() -> lenderAt(LAST), rows -> rows.tick(Integer.MAX_VALUE));
    }

    static void tickOverTheEndDoesNotGoPartOfTheWay() {
        AidRows rows = Scene.lenders(1);
        Scene.tickTo(rows, LAST - 10);
        rows.ask(0, 1, 5);
        Check.outside("beyond", () -> rows.tick(11));
        Check.same("clock", rows.count(0), LAST - 10);
        Check.ask("the ask waits still", rows, 0, 0, 0, LAST - 10, 0, 1, 0);
    }

    static void nothingToDoIs0() {
        Check.same("moves", Scene.lent(1, 0).tick(2000), 0);
    }

    static void patienceHasNotPassedAMinuteBefore() {
        AidRows rows = Scene.asked(1);
        Check.same("moves", rows.tick(99), 0);
        Check.same("open", rows.askAt(0, 0), 0);
    }

    static void patienceHasPassedAtItsMinute() {
        AidRows rows = Scene.asked(1);
        Check.same("moves", rows.tick(100), 1);
        Check.ask("given up", rows, 0, 2, -1, 0, 0, 1, 0);
    }

    static void patienceIsTakenOverManyTicks() {
        AidRows rows = Scene.asked(1);
        rows.tick(60);
        Check.same("not yet", rows.tick(39), 0);
        Check.same("now", rows.tick(1), 1);
    }

    static void patience1GoesOnAtEveryMinute() {
        AidRows rows = Scene.lenders(8);
        rows.ask(0, 1, 1);
        for (int i = 1; i < 8; i++) {
            Check.same("moves", rows.tick(1), 1);
            Check.ask("at house " + i, rows, 0, 0, i, i, 0, i + 1, 0);
        }
        Check.same("given up then", rows.tick(1), 1);
        Check.same("none moves any more", rows.tick(1), 0);
    }

    static void patience500GoesOnOnceWithin2000Minutes() {
        AidRows rows = Scene.lenders(1);
        rows.ask(0, 1, 500);
        Check.same("moves", rows.tick(2000), 1);
    }

    static void oneTickMovesAnAskManyTimes() {
        AidRows rows = Scene.lenders(8);
        rows.ask(0, 1, 3);
        Check.same("moves", rows.tick(20), 6);
        Check.ask("since the minute it came", rows, 0, 0, 6, 18, 0, 7, 0);
    }

    static void oneTickMovesAnAskToItsEnd() {
        AidRows rows = Scene.lenders(8);
        rows.ask(0, 1, 3);
        Check.same("seven houses more, and given up", rows.tick(24), 8);
        Check.ask("given up", rows, 0, 2, -1, 0, 0, 8, 0);
    }

    static void manyAsksMoveAtOneMinute() {
        AidRows rows = Scene.lenders(2);
        for (int i = 0; i < 30; i++) {
            rows.ask(0, 1, 5);
        }
        Check.same("moves", rows.tick(5), 30);
        Check.ask("the last one", rows, 29, 0, 1, 5, 0, 2, 0);
    }

    static void mostMovesOfATickAreCounted() {
        AidRows rows = Scene.lenders(8);
        for (int i = 0; i < 30; i++) {
            rows.ask(0, 1, 1 + i);
        }
        Check.same("moves", rows.tick(2000), 240);
        Check.same("none is open", rows.count(2), 0);
    }

    static void askThatIsGivenUpIsCounted() {
        Check.same("moves", Scene.asked(1).tick(100), 1);
    }

    static void askThatWasGivenUpAtOnceIsNotCounted() {
        AidRows rows = Scene.houses(1);
        rows.ask(0, 1, 5);
        Check.same("moves", rows.tick(5), 0);
    }

    static void filledAskDoesNotGoOn() {
        AidRows rows = Scene.lenders(2);
        rows.ask(0, 1, 5);
        rows.message(0, 0, 0, 1, 0);
        Check.same("moves", rows.tick(2000), 0);
        Check.ask("filled", rows, 0, 1, -1, 0, 1, 1, 0);
    }

    static void movesByMessagesAreNotCounted() {
        AidRows rows = Scene.lenders(3);
        rows.ask(0, 1, 5);
        rows.message(0, 0, 0, 0, 0);
        Check.same("moves", rows.tick(4), 0);
        Check.same("moves", rows.tick(1), 1);
    }

    static void refusedTickMovesNothing() {
        Refusal.outside(() -> {
            AidRows rows = Scene.lenders(2);
            rows.ask(0, 1, 1);
            return rows;
        }, rows -> rows.tick(2001));
    }

    static void lostAskGoesOnAtThatMinuteToo() {
        AidRows rows = Scene.lenders(2);
        rows.cut(0, true);
        rows.ask(0, 1, 5);
        Check.same("not yet", rows.tick(4), 0);
        Check.ask("lost", rows, 0, 0, 0, 0, 0, 1, 1);
        Check.same("now", rows.tick(1), 1);
        Check.ask("not lost", rows, 0, 0, 1, 5, 0, 2, 0);
    }

    static void askGoesOnOverALineThatIsCut() {
        AidRows rows = Scene.lenders(3);
        rows.cut(1, true);
        rows.ask(0, 1, 5);
        rows.tick(5);
        Check.ask("lost there", rows, 0, 0, 1, 5, 0, 2, 1);
        rows.tick(5);
        Check.ask("not lost there", rows, 0, 0, 2, 10, 0, 3, 0);
    }

    /** An ask at house 0 goes on at minute 5, where house 1 has an agreement of these minutes and hours. */
    private static AidRows goesOnAt5(int from, int to) {
        AidRows rows = Scene.lenders(1);
        rows.house(0, 0);
        rows.agree(1, 0, from, to, Scene.ALL_DAY, 1);
        rows.ask(0, 1, 5);
        rows.tick(50);
        return rows;
    }

    static void askGoesToAHouseWhoseFirstMinuteItIs() {
        Check.same("houses", goesOnAt5(5, 6).askAt(0, 4), 2);
    }

    static void askDoesNotGoToAHouseWhoseLastMinuteItIs() {
        Check.same("houses", goesOnAt5(0, 5).askAt(0, 4), 1);
    }

    static void askDoesNotGoToAHouseAMinuteBeforeItsFirst() {
        Check.same("houses", goesOnAt5(6, 50).askAt(0, 4), 1);
    }

    static void askGoesByTheHourOfThatMinute() {
        AidRows rows = Scene.lenders(1);
        rows.house(9, 0);
        rows.agree(1, 0, 0, LAST, 101, 1);
        rows.ask(0, 1, 59);
        rows.ask(0, 1, 60);
        Check.same("moves", rows.tick(60), 2);
        Check.same("at 0:59 no house", rows.askAt(0, 0), 2);
        Check.same("at 1:00 a house", rows.askAt(1, 1), 1);
    }

    static void askStaysAtAHouseWhoseAgreementIsOver() {
        AidRows rows = Scene.houses(1);
        rows.agree(0, 0, 0, 5, Scene.ALL_DAY, 1);
        rows.ask(0, 1, 50);
        Check.same("moves", rows.tick(49), 0);
        Check.ask("open there", rows, 0, 0, 0, 0, 0, 1, 0);
        Check.same("moves", rows.tick(1), 1);
    }

    static void askDoesNotComeBackToAHouse() {
        AidRows rows = Scene.lenders(2);
        rows.ask(0, 1, 5);
        rows.tick(10);
        Check.ask("given up", rows, 0, 2, -1, 0, 0, 2, 0);
    }

    static void askGoesToAHigherRankThatAgreedLater() {
        AidRows rows = Scene.lenders(2);
        rows.ask(0, 1, 5);
        rows.house(9, 0);
        rows.agree(2, 0, 0, LAST, Scene.ALL_DAY, 1);
        rows.tick(5);
        Check.same("house", rows.askAt(0, 1), 2);
        rows.tick(5);
        Check.same("then the other one", rows.askAt(0, 1), 1);
    }

    /** Two loans under an agreement to minute 50, begun at minute 0, and at a minute. */
    private static AidRows until50(int minute) {
        AidRows rows = Scene.houses(1);
        rows.agree(0, 0, 0, 50, Scene.ALL_DAY, 5);
        rows.ask(0, 2, 500);
        rows.message(0, 0, 0, 2, 0);
        rows.tick(minute);
        return rows;
    }

    static void loanHasNotEndedAMinuteBeforeTheLast() {
        AidRows rows = until50(49);
        Check.same("ended", rows.loanAt(0, 5), -1);
        Check.same("lent", rows.count(1), 2);
    }

    static void loanEndsAtTheLastMinute() {
        AidRows rows = until50(50);
        Check.same("ended", rows.loanAt(0, 5), 50);
        Check.same("ended", rows.loanAt(1, 5), 50);
        Check.same("lent", rows.count(1), 0);
    }

    static void loanEndsAtTheLastMinuteWithinALongTick() {
        Check.same("ended", until50(2000).loanAt(0, 5), 50);
    }

    static void loanThatEndedBeforeStaysSo() {
        AidRows rows = until50(20);
        rows.end(0);
        rows.tick(100);
        Check.same("ended", rows.loanAt(0, 5), 20);
        Check.same("ended", rows.loanAt(1, 5), 50);
    }

    static void loanEndsThoughItHasNotBegun() {
        AidRows rows = Scene.houses(1);
        rows.agree(0, 0, 0, 50, Scene.ALL_DAY, 5);
        rows.ask(0, 1, 500);
        rows.message(0, 0, 0, 1, 80);
        rows.tick(50);
        Check.loan("ended", rows, 0, 0, 0, 0, 0, 80, 50, 0);
    }

    static void loanEndsThoughTheNextAgreementBegins() {
        AidRows rows = until50(10);
        rows.agree(0, 0, 50, 100, Scene.ALL_DAY, 2);
        rows.tick(40);
        Check.same("ended", rows.loanAt(0, 5), 50);
        rows.ask(0, 2, 5);
        Check.same("the next one has all its units", rows.message(1, 0, 9, 2, 0), 1);
    }

    static void loanDoesNotEndAsTheHoursPass() {
        AidRows rows = Scene.houses(1);
        rows.agree(0, 0, 0, 1000, 0, 1);
        rows.ask(0, 1, 5);
        rows.message(0, 0, 0, 1, 0);
        rows.tick(999);
        Check.same("ended", rows.loanAt(0, 5), -1);
        rows.tick(1);
        Check.same("ended", rows.loanAt(0, 5), 1000);
    }

    static void loanEndsAtMinute99999() {
        AidRows rows = lenderAt(LAST - 1);
        Check.same("ended", rows.loanAt(0, 5), -1);
        rows.tick(1);
        Check.same("ended", rows.loanAt(0, 5), LAST);
    }

    static void loansOfOtherAgreementsDoNotEnd() {
        AidRows rows = until50(10);
        rows.agree(0, 1, 0, 51, Scene.ALL_DAY, 5);
        rows.ask(1, 1, 5);
        rows.message(1, 0, 1, 1, 0);
        rows.tick(40);
        Check.same("ended", rows.loanAt(2, 5), -1);
        rows.tick(1);
        Check.same("ended", rows.loanAt(2, 5), 51);
    }

    static void endedLoansAreNotCountedAsMoves() {
        AidRows rows = until50(10);
        Check.same("moves", rows.tick(40), 0);
    }

    static void tickIsTheSameAsItsMinutes() {
        AidRows whole = Scene.busy();
        AidRows parts = Scene.busy();
        int moves = 0;
        for (int i = 0; i < 120; i++) {
            moves += parts.tick(1);
        }
        Check.same("moves", whole.tick(120), moves);
        for (int ask = 0; ask < 4; ask++) {
            for (int what = 0; what < 6; what++) {
                Check.same("askAt(" + ask + ", " + what + ")", whole.askAt(ask, what), parts.askAt(ask, what));
            }
        }
        for (int loan = 0; loan < 4; loan++) {
            for (int what = 0; what < 7; what++) {
                Check.same("loanAt(" + loan + ", " + what + ")", whole.loanAt(loan, what), parts.loanAt(loan, what));
            }
        }
    }
}
