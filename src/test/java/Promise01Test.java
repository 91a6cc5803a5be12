/** Promise 1 (a new object): "No houses." And so nothing else; the clock is 0, lines are whole at first. */
public final class Promise01Test {
    public static void main(String[] args) throws ReflectiveOperationException {
        Check.cases("Promise 1", Promise01Test.class);
    }

    static void costKnowsNoHouse() {
        Refusal.unknown(AidRows::new, rows -> rows.cost(0));
    }

    static void cutKnowsNoHouse() {
        Refusal.unknown(AidRows::new, rows -> rows.cut(0, true));
    }

    static void seenKnowsNoHouse() {
        Refusal.unknown(AidRows::new, rows -> rows.seen(0, 0));
    }

    static void agreeKnowsNoHouse() {
        Refusal.unknown(AidRows::new, rows -> rows.agree(0, 0, 0, 1, Scene.ALL_DAY, 1));
    }

    static void handKnowsNoHouse() {
        Refusal.unknown(AidRows::new, rows -> rows.hand(0, 0));
    }

    static void messageKnowsNoHouse() {
        Refusal.unknown(() -> {
            AidRows rows = new AidRows();
            rows.ask(0, 1, 1);
            return rows;
        }, rows -> rows.message(0, 0, 0, 0, 0));
    }

    static void lastHouseIsUnknownToo() {
        Refusal.unknown(AidRows::new, rows -> rows.cost(7));
    }

    static void thereIsNoAsk() {
        Refusal.unknown(AidRows::new, rows -> rows.askAt(0, 0));
    }

    static void thereIsNoLoanToLookAt() {
        Refusal.unknown(AidRows::new, rows -> rows.loanAt(0, 0));
    }

    static void thereIsNoLoanToEnd() {
        Refusal.unknown(AidRows::new, rows -> rows.end(0));
    }

    static void thereIsNoAgreement() {
        AidRows rows = Scene.houses(8);
        for (int kind = 0; kind < 10; kind++) {
            Check.same("a house for kind " + kind, Scene.finds(rows, kind), 0);
        }
        Check.same("the first agreement", rows.agree(7, 9, 0, 1, Scene.ALL_DAY, 1), 0);
    }

    static void askFindsNoHouse() {
        AidRows rows = new AidRows();
        Check.same("the ask", rows.ask(0, 1, 1), 0);
        Check.ask("given up at once", rows, 0, 2, -1, 0, 0, 0, 0);
    }

    static void clockIs0() {
        Check.same("minutes", new AidRows().count(0), 0);
    }

    static void allCountsAre0() {
        AidRows rows = new AidRows();
        for (int what = 0; what < 5; what++) {
            Check.same("count(" + what + ")", rows.count(what), 0);
        }
    }

    static void noNameIsBorrowed() {
        for (int name = 0; name < 800; name++) {
            Check.same("named(" + name + ")", new AidRows().named(name), -1);
        }
    }

    static void noCallIsHanded() {
        AidRows rows = new AidRows();
        for (int call = 0; call < 100; call++) {
            Check.same("handed(" + call + ")", rows.handed(call), -1);
        }
    }

    static void noNumberIsSeen() {
        for (int house = 0; house < 8; house++) {
            for (int first = 0; first < 1000; first += 500) {
                AidRows rows = Scene.houses(8);
                for (int number = first; number < first + 500; number++) {
                    Check.same("seen(" + house + ", " + number + ")", rows.seen(house, number), 0);
                }
            }
        }
    }

    static void linesAreWholeAtFirst() {
        for (int house = 0; house < 8; house++) {
            int h = house;
            Refusal.notNow(() -> Scene.houses(8), rows -> rows.cut(h, false));
        }
    }

    static void nothingGoesOn() {
        Check.same("tick", new AidRows().tick(2000), 0);
    }

    static void objectsAreApart() {
        AidRows other = new AidRows();
        Refusal.changesOnly(AidRows::new, rows -> Scene.busy());
        Scene.busy();
        Check.same("the first house of another object", other.house(0, 0), 0);
        Check.same("the other clock", other.count(0), 0);
    }
}
