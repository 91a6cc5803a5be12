/** Promise 9 (end): a loan ends now, once. */
public final class Promise09Test {
    private static final int LAST = Scene.LAST_MINUTE;

    public static void main(String[] args) throws ReflectiveOperationException {
        Check.cases("Promise 9", Promise09Test.class);
    }

    static void loanMinus1IsUnknown() {
        Refusal.unknown(Scene::busy, rows -> rows.end(-1));
    }

    static void loan0IsKnown() {
        AidRows rows = Scene.busy();
        rows.end(0);
        Check.same("ended", rows.loanAt(0, 5), 10);
    }

    static void lastLoanIsKnown() {
        AidRows rows = Scene.busy();
        rows.end(3);
        Check.same("ended", rows.loanAt(3, 5), 10);
    }

    static void loanBehindTheLastIsUnknown() {
        Refusal.unknown(Scene::busy, rows -> rows.end(4));
    }

    static void loan99IsKnownWhenAllAreThere() {
        AidRows rows = Scene.loans(100);
        rows.end(99);
        Check.same("ended", rows.loanAt(99, 5), 0);
        Check.same("lent", rows.count(1), 99);
    }

    static void loan100IsUnknownWhenAllAreThere() {
        Refusal.unknown(() -> Scene.loans(100), rows -> rows.end(100));
    }

    static void loanFarBelowIsUnknown() {
        Refusal.unknown(Scene::busy, rows -> rows.end(Integer.MIN_VALUE));
    }

    static void loanFarAboveIsUnknown() {
        Refusal.unknown(Scene::busy, rows -> rows.end(Integer.MAX_VALUE));
    }

    static void loanThatHasEndedIsRefused() {
        Refusal.notNow(Scene::busy, rows -> rows.end(1));
    }

    static void loanThatHasEndedLongAgoIsRefused() {
        AidRows rows = Scene.lent(1, 0);
        rows.tick(10);
        rows.end(0);
        rows.tick(10);
        Check.notNow("end", () -> rows.end(0));
        Check.same("ended", rows.loanAt(0, 5), 10);
    }

    /** A loan under an agreement to minute 50, at a minute. */
    private static AidRows until50(int minute) {
        AidRows rows = Scene.houses(1);
        rows.agree(0, 0, 0, 50, Scene.ALL_DAY, 5);
        rows.ask(0, 1, 500);
        rows.message(0, 0, 0, 1, 0);
        rows.tick(minute);
        return rows;
    }

    static void loanEndsAMinuteBeforeTheAgreementDoes() {
        AidRows rows = until50(49);
        rows.end(0);
        Check.same("ended", rows.loanAt(0, 5), 49);
        rows.tick(1);
        Check.same("ended", rows.loanAt(0, 5), 49);
    }

    static void loanThatEndedWithTheAgreementIsRefused() {
        Refusal.notNow(() -> until50(50), rows -> rows.end(0));
    }

    static void loanThatEndedWithTheAgreementLongAgoIsRefused() {
        Refusal.notNow(() -> until50(500), rows -> rows.end(0));
    }

    static void loanEndsAtMinute0() {
        AidRows rows = Scene.lent(1, 0);
        rows.end(0);
        Check.loan("ended at once", rows, 0, 0, 0, 0, 0, 0, 0, 0);
        Check.notNow("end", () -> rows.end(0));
    }

    static void loanEndsBeforeItBegins() {
        AidRows rows = Scene.lent(1, 100);
        rows.tick(99);
        rows.end(0);
        Check.loan("ended", rows, 0, 0, 0, 0, 0, 100, 99, 0);
        rows.tick(500);
        Check.loan("it never begins", rows, 0, 0, 0, 0, 0, 100, 99, 0);
    }

    static void loanEndsAtTheMinuteItBegins() {
        AidRows rows = Scene.lent(1, 100);
        rows.tick(100);
        rows.end(0);
        Check.loan("ended", rows, 0, 0, 0, 0, 0, 100, 100, 0);
    }

    static void loanEndsAMinuteBehindItsBeginning() {
        AidRows rows = Scene.lent(1, 100);
        rows.tick(101);
        rows.end(0);
        Check.loan("ended", rows, 0, 0, 0, 0, 0, 100, 101, 60);
    }

    static void loanEndsAtMinute99998() {
        AidRows rows = Scene.lent(1, 0);
        Scene.tickTo(rows, LAST - 1);
        rows.end(0);
        Check.same("ended", rows.loanAt(0, 5), LAST - 1);
    }

    static void otherLoansDoNotEnd() {
        AidRows rows = Scene.lent(3, 0);
        rows.end(1);
        Check.same("loan 0", rows.loanAt(0, 5), -1);
        Check.same("loan 1", rows.loanAt(1, 5), 0);
        Check.same("loan 2", rows.loanAt(2, 5), -1);
        Check.same("lent", rows.count(1), 2);
    }

    static void endOverACutLineIsAllowed() {
        AidRows rows = Scene.lent(1, 0);
        rows.cut(0, true);
        rows.end(0);
        Check.same("lent", rows.count(1), 0);
    }

    static void endLeavesTheAskFilled() {
        AidRows rows = Scene.lent(2, 0);
        rows.end(0);
        rows.end(1);
        Check.ask("filled", rows, 0, 1, -1, 0, 2, 1, 0);
    }

    static void endGivesTheUnitBack() {
        AidRows rows = Scene.lent(20, 0);
        rows.ask(0, 1, 5);
        Check.same("none is left", rows.message(1, 0, 1, 1, 0), 4);
        rows.end(7);
        Check.same("one is left", rows.message(1, 0, 2, 1, 0), 1);
    }

    static void endGivesTheNameBack() {
        AidRows rows = Scene.lent(3, 0);
        rows.end(1);
        Check.same("named", rows.named(1), -1);
    }
}
