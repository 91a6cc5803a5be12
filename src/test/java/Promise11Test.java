/** Promise 11 (loanAt): seven answers of each loan. */
public final class Promise11Test {
    private static final int LAST = Scene.LAST_MINUTE;

    public static void main(String[] args) throws ReflectiveOperationException {
        Check.cases("Promise 11", Promise11Test.class);
    }

    static void loanMinus1IsUnknown() {
        Refusal.unknown(Scene::busy, rows -> rows.loanAt(-1, 0));
    }

    static void loan0IsKnown() {
        Check.same("loanAt", Scene.busy().loanAt(0, 0), 1);
    }

    static void lastLoanIsKnown() {
        Check.same("loanAt", Scene.busy().loanAt(3, 0), 0);
    }

    static void loanBehindTheLastIsUnknown() {
        Refusal.unknown(Scene::busy, rows -> rows.loanAt(4, 0));
    }

    static void loan99IsKnownWhenAllAreThere() {
        Check.loan("the last", Scene.loans(100), 99, 0, 99, 4, 5, 0, -1, 0);
    }

    static void loan100IsUnknownWhenAllAreThere() {
        Refusal.unknown(() -> Scene.loans(100), rows -> rows.loanAt(100, 0));
    }

    static void loanFarBelowIsUnknown() {
        Refusal.unknown(Scene::busy, rows -> rows.loanAt(Integer.MIN_VALUE, 0));
    }

    static void loanFarAboveIsUnknown() {
        Refusal.unknown(Scene::busy, rows -> rows.loanAt(Integer.MAX_VALUE, 0));
    }

    static void whatMinus1IsUnknown() {
        Refusal.unknown(Scene::busy, rows -> rows.loanAt(0, -1));
    }

    static void what0IsKnown() {
        Check.same("loanAt", Scene.busy().loanAt(2, 0), 1);
    }

    static void what6IsKnown() {
        Check.same("loanAt", Scene.busy().loanAt(3, 6), 60);
    }

    static void what7IsUnknown() {
        Refusal.unknown(Scene::busy, rows -> rows.loanAt(0, 7));
    }

    static void whatFarBelowIsUnknown() {
        Refusal.unknown(Scene::busy, rows -> rows.loanAt(0, Integer.MIN_VALUE));
    }

    static void whatFarAboveIsUnknown() {
        Refusal.unknown(Scene::busy, rows -> rows.loanAt(0, Integer.MAX_VALUE));
    }

    static void loansTellTheirHouseNameAskAndAgreement() {
        AidRows rows = Scene.busy();
        Check.loan("lent, not begun", rows, 0, 1, 100, 0, 1, 20, -1, 0);
        Check.loan("ended before it began", rows, 1, 1, 101, 0, 1, 20, 10, 0);
        Check.loan("lent, not begun", rows, 2, 1, 102, 0, 1, 20, -1, 0);
        Check.loan("lent and begun", rows, 3, 0, 0, 0, 0, 0, -1, 60);
    }

    static void loansOfTheLastHouseAndAgreement() {
        AidRows rows = Scene.houses(8);
        for (int i = 0; i < 29; i++) {
            rows.agree(0, 1, i, i + 1, Scene.ALL_DAY, 1);
        }
        rows.agree(7, 0, 0, LAST, Scene.ALL_DAY, 1);
        for (int i = 0; i < 29; i++) {
            rows.ask(2, 1, 1);
        }
        rows.ask(0, 1, 1);
        rows.message(29, 7, 999, 1, 0);
        Check.loan("the loan", rows, 0, 7, 700, 29, 29, 0, -1, 0);
    }

    static void agreementIsTheOneThatHeldAtTheAnswer() {
        AidRows rows = Scene.houses(1);
        rows.agree(0, 0, 0, 50, Scene.ALL_DAY, 1);
        rows.agree(0, 0, 50, 100, Scene.ALL_DAY, 1);
        rows.ask(0, 1, 5);
        rows.message(0, 0, 0, 1, 60);
        Check.same("agreement", rows.loanAt(0, 3), 0);
        rows.tick(60);
        Check.loan("it ended with it", rows, 0, 0, 0, 0, 0, 60, 50, 0);
    }

    static void beginningStaysAsTimeGoesOn() {
        AidRows rows = Scene.lent(1, 30);
        rows.tick(100);
        Check.same("begins", rows.loanAt(0, 4), 30);
        rows.end(0);
        Check.same("begins", rows.loanAt(0, 4), 30);
    }

    static void notEndedIsMinus1() {
        AidRows rows = Scene.lent(1, 0);
        Scene.tickTo(rows, LAST - 1);
        Check.same("ended", rows.loanAt(0, 5), -1);
    }

    static void endedAtMinute0Is0() {
        AidRows rows = Scene.lent(1, 0);
        rows.end(0);
        Check.same("ended", rows.loanAt(0, 5), 0);
    }

    static void endedTellsItsMinute() {
        AidRows rows = Scene.lent(1, 0);
        rows.tick(33);
        rows.end(0);
        rows.tick(33);
        Check.same("ended", rows.loanAt(0, 5), 33);
    }

    static void endedWithItsAgreementTellsTheLastMinute() {
        AidRows rows = Scene.lent(1, 0);
        Scene.tickTo(rows, LAST);
        Check.same("ended", rows.loanAt(0, 5), LAST);
    }

    static void costUpToNow() {
        AidRows rows = Scene.lent(1, 0);
        rows.tick(61);
        Check.same("cost", rows.loanAt(0, 6), 120);
        rows.tick(60);
        Check.same("cost", rows.loanAt(0, 6), 180);
    }

    static void costOfAnEndedLoanStays() {
        AidRows rows = Scene.lent(1, 0);
        rows.tick(61);
        rows.end(0);
        rows.tick(600);
        Check.same("cost", rows.loanAt(0, 6), 120);
    }

    static void costBeforeItBeginsIsNone() {
        AidRows rows = Scene.lent(1, 500);
        rows.tick(499);
        Check.same("cost", rows.loanAt(0, 6), 0);
    }

    static void costAtItsBeginningIsNone() {
        AidRows rows = Scene.lent(1, 500);
        rows.tick(500);
        Check.same("cost", rows.loanAt(0, 6), 0);
    }

    static void nameStaysWithAnEndedLoan() {
        AidRows rows = Scene.lent(2, 0);
        rows.end(0);
        rows.ask(0, 1, 5);
        rows.message(1, 0, 1, 1, 0);
        Check.same("the ended one", rows.loanAt(0, 1), 0);
        Check.same("the new one", rows.loanAt(2, 1), 0);
    }

    static void lookingChangesNothing() {
        for (int what = 0; what < 7; what++) {
            int w = what;
            Refusal.changesOnly(Scene::busy, rows -> rows.loanAt(0, w));
        }
    }
}
