/** Promises 5 (message) and 6 (seen). */
public final class MessagesTest {
    private static final int ALL_DAY = 23;

    public static void main(String[] args) {
        yesForAllFills();
        yesForSomeGoesOn();
        noGoesOn();
        repeatedIsNothing();
        lateIsSeen();
        tooManyIsSeenAndNothingElse();
        noAgreementNow();
        cutLineIsNotHeard();
        messageRefuses();
        noRoomForLoans();
        seenAnswersAndRefuses();
        Check.finish();
    }

    /** Two houses with agreements for kind 0, of 5 and of 20 units, and one ask for 8 at house 0. */
    private static AidRows asked() {
        AidRows rows = new AidRows();
        rows.house(5, 10);
        rows.house(4, 10);
        rows.agree(0, 0, 0, 500, ALL_DAY, 5);
        rows.agree(1, 0, 0, 500, ALL_DAY, 20);
        rows.ask(0, 8, 30);
        return rows;
    }

    private static void yesForAllFills() {
        AidRows rows = asked();
        int ask = rows.ask(0, 5, 30);
        Check.same("yes", rows.message(ask, 0, 999, 5, 999), 1);
        Check.ask("filled", rows, ask, 1, -1, 0, 5, 1, 0);
        Check.same("five loans", rows.count(1), 5);
        Check.same("a second yes is late", rows.message(ask, 0, 998, 1, 0), 3);
    }

    private static void yesForSomeGoesOn() {
        AidRows rows = asked();
        rows.tick(3);
        Check.same("yes", rows.message(0, 0, 0, 5, 0), 1);
        Check.ask("goes on for the rest", rows, 0, 0, 1, 3, 5, 2, 0);
        Check.same("more than the rest", rows.message(0, 1, 0, 4, 0), 4);
        Check.same("the rest", rows.message(0, 1, 1, 3, 0), 1);
        Check.ask("filled", rows, 0, 1, -1, 0, 8, 2, 0);
        int last = rows.ask(0, 2, 30);
        Check.same("no", rows.message(last, 0, 1, 0, 0), 1);
        Check.same("yes for one", rows.message(last, 1, 2, 1, 0), 1);
        Check.ask("no house for the rest", rows, last, 2, -1, 0, 1, 2, 0);
    }

    private static void noGoesOn() {
        AidRows rows = asked();
        rows.tick(2);
        Check.same("no, whatever the minutes are", rows.message(0, 0, 0, 0, Integer.MIN_VALUE), 1);
        Check.ask("goes on", rows, 0, 0, 1, 2, 0, 2, 0);
        Check.same("no", rows.message(0, 1, 0, 0, Integer.MAX_VALUE), 1);
        Check.ask("given up", rows, 0, 2, -1, 0, 0, 2, 0);
        Check.same("no loans", rows.count(1), 0);
        Check.same("a no to what is given up is late", rows.message(0, 1, 1, 0, 0), 3);
    }

    private static void repeatedIsNothing() {
        AidRows rows = asked();
        rows.message(0, 0, 7, 2, 0);
        Check.same("the same", rows.message(0, 0, 7, 2, 0), 2);
        Check.same("another text", rows.message(0, 0, 7, 0, 0), 2);
        Check.same("the same number of another house", rows.message(0, 1, 7, 3, 0), 1);
        Check.same("seen stays", rows.seen(0, 7), 1);
        Check.same("repeated ones", rows.count(4), 2);
        Check.same("loans", rows.count(1), 5);
    }

    private static void lateIsSeen() {
        AidRows rows = asked();
        Check.same("not at that house", rows.message(0, 1, 3, 20, 0), 3);
        Check.same("seen", rows.seen(1, 3), 3);
        Check.same("a no, not at that house", rows.message(0, 1, 4, 0, 0), 3);
        Check.ask("untouched", rows, 0, 0, 0, 0, 0, 1, 0);
        Check.same("repeated after late", rows.message(0, 1, 3, 1, 0), 2);
    }

    private static void tooManyIsSeenAndNothingElse() {
        AidRows rows = asked();
        Check.same("more than the agreement has", rows.message(0, 0, 1, 6, 0), 4);
        Check.same("more than asked for", rows.message(0, 0, 2, 9, 0), 4);
        Check.same("seen", rows.seen(0, 1), 4);
        Check.ask("untouched", rows, 0, 0, 0, 0, 0, 1, 0);
        Check.same("its patience runs on", rows.tick(30), 1);
        int ask = rows.ask(0, 9, 30);
        Check.same("all that the agreement has", rows.message(ask, 0, 3, 5, 400), 1);
        int next = rows.ask(0, 1, 30);
        Check.same("none left, though none has begun", rows.message(next, 0, 4, 1, 0), 4);
        rows.end(0);
        Check.same("one is back", rows.message(next, 0, 5, 1, 0), 1);
    }

    private static void noAgreementNow() {
        AidRows rows = new AidRows();
        rows.house(5, 10);
        rows.agree(0, 0, 0, 10, ALL_DAY, 5);
        rows.agree(0, 1, 0, 99_999, 0, 5);
        rows.agree(0, 2, 0, 10, ALL_DAY, 1);
        rows.agree(0, 2, 10, 99, ALL_DAY, 3);
        rows.ask(0, 1, 100);
        rows.ask(1, 1, 100);
        rows.ask(2, 3, 100);
        rows.tick(10);
        Check.same("its minutes are over", rows.message(0, 0, 0, 1, 0), 4);
        Check.same("the next agreement holds", rows.message(2, 0, 1, 3, 0), 1);
        Check.same("that is the loan's", rows.loanAt(0, 3), 3);
        rows.tick(50);
        Check.same("its hours are over", rows.message(1, 0, 2, 1, 0), 4);
        Check.same("a no counts all the same", rows.message(1, 0, 3, 0, 0), 1);
    }

    private static void cutLineIsNotHeard() {
        AidRows rows = asked();
        rows.message(0, 1, 9, 1, 0);
        rows.cut(0, true);
        rows.cut(1, true);
        Check.same("not heard", rows.message(0, 0, 0, 1, 0), 5);
        Check.same("nor a repeated one", rows.message(0, 1, 9, 1, 0), 5);
        Check.same("not seen", rows.seen(0, 0), 0);
        Check.same("over cut lines", rows.count(3), 2);
        Check.same("repeated", rows.count(4), 0);
        Check.outside("a wrong number is refused first", () -> rows.message(0, 0, 1000, 1, 0));
        rows.cut(0, false);
        Check.same("heard now", rows.message(0, 0, 0, 1, 0), 1);
    }

    private static void messageRefuses() {
        AidRows rows = asked();
        for (int ask : new int[] {-1, 1, 30, Integer.MIN_VALUE, Integer.MAX_VALUE}) {
            Check.unknown("ask " + ask, () -> rows.message(ask, 0, -1, -1, -1));
        }
        for (int house : new int[] {-1, 2, 8, Integer.MIN_VALUE, Integer.MAX_VALUE}) {
            Check.unknown("house " + house, () -> rows.message(0, house, 0, 1, 0));
        }
        for (int number : new int[] {-1, 1000, Integer.MIN_VALUE, Integer.MAX_VALUE}) {
            Check.outside("number " + number, () -> rows.message(0, 0, number, 0, 0));
        }
        for (int n : new int[] {-1, 21, Integer.MIN_VALUE, Integer.MAX_VALUE}) {
            Check.outside("n " + n, () -> rows.message(0, 0, 0, n, 0));
        }
        for (int minutes : new int[] {-1, 1000, Integer.MIN_VALUE, Integer.MAX_VALUE}) {
            Check.outside("minutes " + minutes, () -> rows.message(0, 0, 0, 1, minutes));
        }
        Check.same("nothing was heard", rows.seen(0, 0), 0);
        Check.ask("untouched", rows, 0, 0, 0, 0, 0, 1, 0);
    }

    private static void noRoomForLoans() {
        AidRows rows = new AidRows();
        rows.house(0, 1);
        rows.agree(0, 0, 0, 500, ALL_DAY, 20);
        for (int ask = 0; ask < 5; ask++) {
            int lent = ask < 4 ? 20 : 19;
            rows.ask(0, lent, 500);
            rows.message(ask, 0, ask, lent, 0);
            for (int i = 0; i < lent; i++) {
                rows.end(20 * ask + i);
            }
        }
        int ask = rows.ask(0, 2, 500);
        Check.noRoom("two more than 99", () -> rows.message(ask, 0, 500, 2, 0));
        Check.same("nothing was heard", rows.seen(0, 500), 0);
        Check.ask("untouched", rows, ask, 0, 0, 0, 0, 1, 0);
        Check.same("it would not count", rows.message(ask, 0, 501, 3, 0), 4);
        Check.same("one more", rows.message(ask, 0, 500, 1, 0), 1);
        Check.same("the hundredth", rows.loanAt(99, 2), ask);
        int last = rows.ask(0, 1, 500);
        Check.noRoom("one more than 100", () -> rows.message(last, 0, 502, 1, 0));
        Check.same("a no needs no room", rows.message(last, 0, 502, 0, 0), 1);
    }

    private static void seenAnswersAndRefuses() {
        AidRows rows = asked();
        for (int number = 0; number < 60; number++) {
            rows.message(0, number % 2, number, number % 2 == 0 ? 20 : 1, 0);
        }
        for (int number = 0; number < 60; number++) {
            Check.same("house 0, " + number, rows.seen(0, number), number % 2 == 0 ? 4 : 0);
            Check.same("house 1, " + number, rows.seen(1, number), number % 2 == 0 ? 0 : 3);
        }
        rows.message(0, 0, 999, 0, 0);
        Check.same("the last number", rows.seen(0, 999), 1);
        Check.same("the next house's first", rows.seen(1, 0), 0);
        for (int house : new int[] {-1, 2, 8, Integer.MIN_VALUE, Integer.MAX_VALUE}) {
            Check.unknown("house " + house, () -> rows.seen(house, -1));
        }
        for (int number : new int[] {-1, 1000, Integer.MIN_VALUE, Integer.MAX_VALUE}) {
            Check.outside("number " + number, () -> rows.seen(0, number));
        }
    }
}
