/** Promise 7 (tick). */
public final class TickTest {
    private static final int ALL_DAY = 23;

    public static void main(String[] args) {
        clockGoesOn();
        tickRefuses();
        patiencePasses();
        oneTickIsManyMinutes();
        hoursAreThoseOfTheMinute();
        loansEndWithAgreements();
        Check.finish();
    }

    private static void clockGoesOn() {
        AidRows rows = new AidRows();
        Check.same("nothing went on", rows.tick(1), 0);
        Check.same("clock", rows.count(0), 1);
        rows.tick(2000);
        Check.same("clock", rows.count(0), 2001);
    }

    private static void tickRefuses() {
        AidRows rows = new AidRows();
        for (int minutes : new int[] {0, -1, 2001, Integer.MIN_VALUE, Integer.MAX_VALUE}) {
            Check.outside("minutes " + minutes, () -> rows.tick(minutes));
        }
        for (int i = 0; i < 49; i++) {
            rows.tick(2000);
        }
        rows.tick(1998);
        Check.outside("beyond the last minute", () -> rows.tick(2));
        Check.same("refused, so it stands", rows.count(0), 99_998);
        rows.tick(1);
        Check.same("the last minute", rows.count(0), 99_999);
        Check.outside("beyond the last minute", () -> rows.tick(1));
    }

    private static void patiencePasses() {
        AidRows rows = new AidRows();
        rows.house(0, 0);
        rows.agree(0, 0, 0, 999, ALL_DAY, 1);
        rows.ask(0, 1, 500);
        rows.ask(0, 1, 1);
        Check.same("the second is given up", rows.tick(1), 1);
        Check.same("state", rows.askAt(1, 0), 2);
        Check.same("not yet", rows.tick(498), 0);
        Check.same("the first is given up", rows.tick(1), 1);
        Check.same("none is left", rows.tick(2000), 0);
    }

    private static void oneTickIsManyMinutes() {
        AidRows rows = new AidRows();
        for (int i = 0; i < 8; i++) {
            rows.house(9 - i, 0);
            rows.agree(i, 0, 0, i == 5 ? 15 : 99, ALL_DAY, 1);
        }
        rows.ask(0, 1, 3);
        rows.ask(0, 1, 50);
        Check.same("six times, past house 5", rows.tick(20), 6);
        Check.ask("at house 7", rows, 0, 0, 7, 18, 0, 7, 0);
        Check.same("given up, and the other goes on", rows.tick(100), 3);
        Check.ask("given up when all agreements are over", rows, 1, 2, -1, 0, 0, 2, 0);
    }

    private static void hoursAreThoseOfTheMinute() {
        AidRows rows = new AidRows();
        rows.house(9, 0);
        rows.house(8, 0);
        rows.house(7, 0);
        rows.agree(0, 0, 0, 999, ALL_DAY, 1);
        rows.agree(1, 0, 0, 999, 101, 1);
        rows.agree(2, 0, 0, 999, 0, 1);
        rows.ask(0, 1, 59);
        rows.ask(0, 1, 60);
        Check.same("both go on", rows.tick(61), 2);
        Check.ask("at 0:59", rows, 0, 0, 2, 59, 0, 2, 0);
        Check.ask("at 1:00", rows, 1, 0, 1, 60, 0, 2, 0);
    }

    private static void loansEndWithAgreements() {
        AidRows rows = new AidRows();
        rows.house(0, 60);
        rows.agree(0, 0, 0, 50, ALL_DAY, 2);
        rows.agree(0, 1, 0, 70, ALL_DAY, 2);
        rows.ask(0, 2, 9);
        rows.ask(1, 1, 9);
        rows.message(0, 0, 0, 2, 0);
        rows.message(1, 0, 1, 1, 0);
        rows.tick(49);
        Check.same("all lent", rows.count(1), 3);
        rows.end(1);
        rows.tick(500);
        Check.same("ended with its agreement", rows.loanAt(0, 5), 50);
        Check.same("ended before", rows.loanAt(1, 5), 49);
        Check.same("ended with its agreement", rows.loanAt(2, 5), 70);
        Check.same("none lent", rows.count(1), 0);
    }
}
