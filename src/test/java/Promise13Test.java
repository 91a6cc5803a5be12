/** Promise 13 (named): the loan of a name that has not ended, and the lowest name that no such loan has. */
public final class Promise13Test {
    private static final int LAST = Scene.LAST_MINUTE;

    public static void main(String[] args) throws ReflectiveOperationException {
        Check.cases("Promise 13", Promise13Test.class);
    }

    static void nameMinus1IsNone() {
        Check.same("named", Scene.busy().named(-1), -1);
    }

    static void name800IsNone() {
        Check.same("named", Scene.busy().named(800), -1);
    }

    static void nameFarBelowIsNone() {
        Check.same("named", Scene.busy().named(Integer.MIN_VALUE), -1);
    }

    static void nameFarAboveIsNone() {
        Check.same("named", Scene.busy().named(Integer.MAX_VALUE), -1);
    }

    static void nameOfAHouseThatIsNotThereIsNone() {
        Check.same("named", Scene.busy().named(300), -1);
    }

    static void nameThatNoLoanHadIsNone() {
        Check.same("named", Scene.busy().named(1), -1);
        Check.same("named", Scene.busy().named(103), -1);
    }

    static void nameOfALoanIsThatLoan() {
        AidRows rows = Scene.busy();
        Check.same("house 0", rows.named(0), 3);
        Check.same("house 1", rows.named(100), 0);
        Check.same("house 1", rows.named(102), 2);
    }

    static void nameOfAnEndedLoanIsNone() {
        Check.same("named", Scene.busy().named(101), -1);
    }

    static void nameOfALoanThatHasNotBegunIsThatLoan() {
        Check.same("named", Scene.lent(1, 999).named(0), 0);
    }

    static void nameOfALoanThatEndedWithItsAgreementIsNone() {
        AidRows rows = Scene.houses(1);
        rows.agree(0, 0, 0, 50, Scene.ALL_DAY, 1);
        rows.ask(0, 1, 5);
        rows.message(0, 0, 0, 1, 0);
        rows.tick(49);
        Check.same("a minute before", rows.named(0), 0);
        rows.tick(1);
        Check.same("at the last minute", rows.named(0), -1);
    }

    static void nameIs100TimesTheHouse() {
        AidRows rows = Scene.lenders(8);
        rows.ask(0, 8, 50);
        for (int house = 0; house < 8; house++) {
            rows.message(0, house, 0, 1, 0);
            Check.same("its name", rows.loanAt(house, 1), 100 * house);
            Check.same("named", rows.named(100 * house), house);
        }
    }

    static void namesOfAYesFollowEachOther() {
        AidRows rows = Scene.lent(20, 0);
        for (int i = 0; i < 20; i++) {
            Check.same("its name", rows.loanAt(i, 1), i);
            Check.same("named", rows.named(i), i);
        }
        Check.same("the next one", rows.named(20), -1);
    }

    /** Five loans of house 0, of which some ended, and an ask 1 for five more. */
    private static AidRows without(int... ended) {
        AidRows rows = Scene.lent(5, 0);
        for (int loan : ended) {
            rows.end(loan);
        }
        rows.ask(0, 5, 5);
        return rows;
    }

    static void lowestNameIsFreeAgain() {
        AidRows rows = without(0);
        rows.message(1, 0, 1, 1, 0);
        Check.same("its name", rows.loanAt(5, 1), 0);
        Check.same("named", rows.named(0), 5);
    }

    static void nameInBetweenIsFreeAgain() {
        AidRows rows = without(2);
        rows.message(1, 0, 1, 1, 0);
        Check.same("its name", rows.loanAt(5, 1), 2);
        Check.same("named", rows.named(2), 5);
    }

    static void lowestOfTwoFreeNamesIsTaken() {
        AidRows rows = without(3, 1);
        rows.message(1, 0, 1, 1, 0);
        Check.same("its name", rows.loanAt(5, 1), 1);
    }

    static void freeNamesAreTakenBeforeNewOnes() {
        AidRows rows = without(3, 1);
        rows.message(1, 0, 1, 5, 0);
        int[] names = {1, 3, 5, 6, 7};
        for (int i = 0; i < 5; i++) {
            Check.same("its name", rows.loanAt(5 + i, 1), names[i]);
            Check.same("named", rows.named(names[i]), 5 + i);
        }
    }

    static void noNameIsFreeWhileAllAreLent() {
        AidRows rows = without();
        rows.message(1, 0, 1, 1, 0);
        Check.same("its name", rows.loanAt(5, 1), 5);
    }

    static void nameIsFreeAgainManyTimes() {
        AidRows rows = Scene.lenders(1);
        for (int i = 0; i < 20; i++) {
            rows.ask(0, 1, 5);
            rows.message(i, 0, i, 1, 0);
            Check.same("its name", rows.loanAt(i, 1), 0);
            Check.same("named", rows.named(0), i);
            rows.end(i);
            Check.same("named", rows.named(0), -1);
        }
    }

    static void nameIsFreeAgainAsItsAgreementEnded() {
        AidRows rows = Scene.houses(1);
        rows.agree(0, 0, 0, 50, Scene.ALL_DAY, 2);
        rows.agree(0, 1, 0, LAST, Scene.ALL_DAY, 2);
        rows.ask(0, 2, 5);
        rows.message(0, 0, 0, 2, 0);
        rows.ask(1, 1, 5);
        rows.message(1, 0, 1, 1, 0);
        Check.same("names are of the house, not of the agreement", rows.loanAt(2, 1), 2);
        rows.tick(50);
        rows.ask(1, 1, 5);
        rows.message(2, 0, 2, 1, 0);
        Check.same("the lowest", rows.loanAt(3, 1), 0);
    }

    static void namesOfOtherHousesDoNotMatter() {
        AidRows rows = Scene.lenders(2);
        rows.ask(0, 5, 50);
        rows.message(0, 0, 0, 3, 0);
        rows.message(0, 1, 0, 2, 0);
        Check.same("house 1 begins with its own", rows.loanAt(3, 1), 100);
        Check.same("named", rows.named(3), -1);
    }

    static void name99IsTakenByTheHundredthLoan() {
        AidRows rows = Scene.loans(100);
        Check.same("its name", rows.loanAt(99, 1), 99);
        Check.same("named", rows.named(99), 99);
        Check.same("none of the next house", rows.named(100), -1);
    }

    static void name799IsTheHighest() {
        AidRows rows = Scene.houses(8);
        for (int kind = 0; kind < 5; kind++) {
            rows.agree(7, kind, 0, LAST, Scene.ALL_DAY, 20);
            rows.ask(kind, 20, 5);
            rows.message(kind, 7, kind, 20, 0);
        }
        Check.same("its name", rows.loanAt(99, 1), 799);
        Check.same("named", rows.named(799), 99);
        Check.same("none above", rows.named(800), -1);
    }

    static void lookingChangesNothing() {
        Refusal.changesOnly(Scene::busy, rows -> rows.named(0));
        Refusal.changesOnly(Scene::busy, rows -> rows.named(800));
    }
}
