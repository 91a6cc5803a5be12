/** Promise 16 (count): minutes, loans that have not ended, open asks, messages over cut lines, repeated ones. */
public final class Promise16Test {
    private static final int LAST = Scene.LAST_MINUTE;

    public static void main(String[] args) throws ReflectiveOperationException {
        Check.cases("Promise 16", Promise16Test.class);
    }

    static void whatMinus1IsUnknown() {
        Refusal.unknown(Scene::busy, rows -> rows.count(-1));
    }

    static void what0IsKnown() {
        Check.same("minutes", Scene.busy().count(0), 10);
    }

    static void what4IsKnown() {
        Check.same("repeated", Scene.busy().count(4), 1);
    }

    static void what5IsUnknown() {
        Refusal.unknown(Scene::busy, rows -> rows.count(5));
    }

    static void whatFarBelowIsUnknown() {
        Refusal.unknown(Scene::busy, rows -> rows.count(Integer.MIN_VALUE));
    }

    static void whatFarAboveIsUnknown() {
        Refusal.unknown(Scene::busy, rows -> rows.count(Integer.MAX_VALUE));
    }

    static void whatIsUnknownInANewObjectToo() {
        Refusal.unknown(AidRows::new, rows -> rows.count(5));
    }

    static void clockIs0AtFirst() {
        Check.same("minutes", new AidRows().count(0), 0);
    }

    static void clockReaches99999() {
        AidRows rows = new AidRows();
        Scene.tickTo(rows, LAST);
        Check.same("minutes", rows.count(0), LAST);
    }

    static void clockStaysAtARefusedTick() {
        AidRows rows = Scene.busy();
        Check.outside("tick", () -> rows.tick(2001));
        Check.same("minutes", rows.count(0), 10);
    }

    static void loansReach100() {
        Check.same("loans", Scene.loans(100).count(1), 100);
    }

    static void loansThatHaveNotBegunAreCounted() {
        Check.same("loans", Scene.lent(7, 999).count(1), 7);
    }

    static void loansThatEndedAreNotCounted() {
        AidRows rows = Scene.lent(7, 0);
        rows.end(3);
        Check.same("loans", rows.count(1), 6);
    }

    static void loansThatEndedWithTheirAgreementAreNotCounted() {
        AidRows rows = Scene.lent(7, 0);
        Scene.tickTo(rows, LAST - 1);
        Check.same("a minute before", rows.count(1), 7);
        rows.tick(1);
        Check.same("at the last minute", rows.count(1), 0);
    }

    static void openAsksReach30() {
        AidRows rows = Scene.lenders(1);
        for (int i = 0; i < 30; i++) {
            rows.ask(0, 1, 500);
            Check.same("open", rows.count(2), i + 1);
        }
    }

    static void filledAskIsNotOpen() {
        Check.same("open", Scene.lent(1, 0).count(2), 0);
    }

    static void askThatFoundNoHouseIsNotOpen() {
        AidRows rows = Scene.houses(1);
        rows.ask(0, 1, 5);
        Check.same("open", rows.count(2), 0);
    }

    static void askThatIsGivenUpIsNotOpen() {
        AidRows rows = Scene.asked(1);
        rows.tick(99);
        Check.same("a minute before", rows.count(2), 1);
        rows.tick(1);
        Check.same("given up", rows.count(2), 0);
    }

    static void askThatIsLostIsOpen() {
        AidRows rows = Scene.lenders(1);
        rows.cut(0, true);
        rows.ask(0, 1, 5);
        Check.same("open", rows.count(2), 1);
    }

    static void askForTheRestIsOpen() {
        AidRows rows = Scene.lenders(2);
        rows.ask(0, 5, 50);
        rows.message(0, 0, 0, 4, 0);
        Check.same("open", rows.count(2), 1);
    }

    static void messagesOverCutLinesAreCounted() {
        AidRows rows = Scene.busy();
        for (int i = 0; i < 3; i++) {
            rows.message(i, 2, 9, i, 0);
            Check.same("over cut lines", rows.count(3), 2 + i);
        }
        Check.same("repeated", rows.count(4), 1);
    }

    static void refusedMessagesOverCutLinesAreNotCounted() {
        AidRows rows = Scene.busy();
        Check.outside("number", () -> rows.message(1, 2, 1000, 1, 0));
        Check.unknown("ask", () -> rows.message(4, 2, 9, 1, 0));
        Check.same("over cut lines", rows.count(3), 1);
    }

    static void lostAskIsNoMessage() {
        AidRows rows = Scene.lenders(1);
        rows.cut(0, true);
        rows.ask(0, 1, 5);
        Check.same("over cut lines", rows.count(3), 0);
    }

    static void refusedCallsOverCutLinesAreNoMessages() {
        AidRows rows = Scene.busy();
        Check.notNow("hand", () -> rows.hand(0, 2));
        Check.same("over cut lines", rows.count(3), 1);
    }

    static void repeatedMessagesAreCounted() {
        AidRows rows = Scene.busy();
        for (int i = 0; i < 3; i++) {
            rows.message(i, 0, 0, i, 0);
            Check.same("repeated", rows.count(4), 2 + i);
        }
        Check.same("over cut lines", rows.count(3), 1);
    }

    static void refusedRepeatedMessagesAreNotCounted() {
        AidRows rows = Scene.busy();
        Check.outside("n", () -> rows.message(0, 0, 0, 21, 0));
        Check.same("repeated", rows.count(4), 1);
    }

    static void lateAndTooManyAreNotCounted() {
        AidRows rows = Scene.asked(1);
        Check.same("too many", rows.message(0, 0, 0, 2, 0), 4);
        Check.same("counts", rows.message(0, 0, 1, 1, 0), 1);
        Check.same("late", rows.message(0, 0, 2, 1, 0), 3);
        Check.same("over cut lines", rows.count(3), 0);
        Check.same("repeated", rows.count(4), 0);
    }

    static void messagesReachWhatCanBeSent() {
        AidRows rows = Scene.asked(1);
        rows.message(0, 0, 0, 1, 0);
        for (int i = 0; i < 250; i++) {
            rows.message(0, 0, 0, 1, 0);
        }
        rows.cut(0, true);
        for (int i = 0; i < 250; i++) {
            rows.message(0, 0, 0, 1, 0);
        }
        Check.same("over cut lines", rows.count(3), 250);
        Check.same("repeated", rows.count(4), 250);
    }

    static void lookingChangesNothing() {
        for (int what = 0; what < 5; what++) {
            int w = what;
            Refusal.changesOnly(Scene::busy, rows -> rows.count(w));
        }
    }
}
