/** Promise 3 (agree). */
public final class AgreementsTest {
    private static final int ALL_DAY = 23;

    public static void main(String[] args) {
        agreementsAreNumbered();
        agreeRefusesUnknown();
        agreeRefusesOutside();
        agreeRefusesSharedMinutes();
        firstRefusalWins();
        minutesBound();
        hoursBound();
        hoursGoThroughMidnight();
        Check.finish();
    }

    private static void agreementsAreNumbered() {
        AidRows rows = new AidRows();
        rows.house(0, 0);
        for (int i = 0; i < 30; i++) {
            Check.same("agree", rows.agree(0, 9, i, i + 1, ALL_DAY, 20), i);
        }
        Check.noRoom("the 31st", () -> rows.agree(0, 9, 30, 31, ALL_DAY, 20));
        Check.notNow("shared minutes come before no room", () -> rows.agree(0, 9, 29, 31, ALL_DAY, 20));
        Check.outside("units come before no room", () -> rows.agree(0, 9, 30, 31, ALL_DAY, 0));
    }

    private static void agreeRefusesUnknown() {
        AidRows rows = new AidRows();
        rows.house(0, 0);
        for (int house : new int[] {-1, 1, 8, Integer.MIN_VALUE, Integer.MAX_VALUE}) {
            Check.unknown("house " + house, () -> rows.agree(house, 0, 0, 1, ALL_DAY, 1));
        }
        for (int kind : new int[] {-1, 10, Integer.MIN_VALUE, Integer.MAX_VALUE}) {
            Check.unknown("kind " + kind, () -> rows.agree(0, kind, 0, 1, ALL_DAY, 1));
        }
        Check.same("none of them stands", rows.agree(0, 0, 0, 1, ALL_DAY, 1), 0);
    }

    private static void agreeRefusesOutside() {
        AidRows rows = new AidRows();
        rows.house(0, 0);
        int[][] spans = {{-1, 5}, {5, 5}, {6, 5}, {0, 100_000}, {99_999, 99_999}, {99_999, 100_000},
            {Integer.MIN_VALUE, Integer.MAX_VALUE}, {0, Integer.MIN_VALUE}};
        for (int[] span : spans) {
            Check.outside("minutes " + span[0] + " " + span[1],
                    () -> rows.agree(0, 0, span[0], span[1], ALL_DAY, 1));
        }
        for (int hours : new int[] {-1, 24, 99, 124, 2324, 2400, 2399, 9900, -100, -2300,
            Integer.MIN_VALUE, Integer.MAX_VALUE}) {
            Check.outside("hours " + hours, () -> rows.agree(0, 0, 0, 1, hours, 1));
        }
        for (int units : new int[] {0, -1, 21, Integer.MIN_VALUE, Integer.MAX_VALUE}) {
            Check.outside("units " + units, () -> rows.agree(0, 0, 0, 1, ALL_DAY, units));
        }
        Check.same("the edges stand", rows.agree(0, 0, 0, 99_999, 2323, 20), 0);
        Check.same("the edges stand", rows.agree(0, 1, 99_998, 99_999, 0, 1), 1);
        Check.same("the edges stand", rows.agree(0, 2, 0, 1, 2300, 1), 2);
    }

    private static void agreeRefusesSharedMinutes() {
        AidRows rows = new AidRows();
        rows.house(0, 0);
        rows.house(0, 0);
        rows.agree(0, 3, 100, 200, ALL_DAY, 1);
        int[][] shared = {{100, 200}, {0, 101}, {199, 300}, {120, 130}, {0, 99_999}};
        for (int[] span : shared) {
            Check.notNow("shared " + span[0] + " " + span[1],
                    () -> rows.agree(0, 3, span[0], span[1], ALL_DAY, 1));
        }
        Check.notNow("other hours of the same minutes", () -> rows.agree(0, 3, 100, 200, 1212, 1));
        Check.same("just before", rows.agree(0, 3, 0, 100, ALL_DAY, 1), 1);
        Check.same("just behind", rows.agree(0, 3, 200, 201, ALL_DAY, 1), 2);
        Check.same("another house", rows.agree(1, 3, 100, 200, ALL_DAY, 1), 3);
        Check.same("another kind", rows.agree(0, 4, 100, 200, ALL_DAY, 1), 4);
    }

    private static void firstRefusalWins() {
        AidRows rows = new AidRows();
        rows.house(0, 0);
        rows.agree(0, 0, 0, 10, ALL_DAY, 1);
        Check.unknown("unknown before outside", () -> rows.agree(0, 10, 5, 5, 24, 0));
        Check.outside("outside before shared minutes", () -> rows.agree(0, 0, 0, 10, ALL_DAY, 21));
    }

    private static void minutesBound() {
        AidRows rows = new AidRows();
        rows.house(0, 0);
        rows.agree(0, 0, 10, 20, ALL_DAY, 1);
        rows.tick(9);
        Check.same("before its first minute", openWhenAsked(rows), 0);
        rows.tick(1);
        Check.same("at its first minute", openWhenAsked(rows), 1);
        rows.tick(9);
        Check.same("at the last but one", openWhenAsked(rows), 1);
        rows.tick(1);
        Check.same("at its last minute", openWhenAsked(rows), 0);
    }

    private static void hoursBound() {
        AidRows rows = new AidRows();
        rows.house(0, 0);
        rows.agree(0, 0, 0, 99_999, 203, 1);
        rows.tick(119);
        Check.same("1:59", openWhenAsked(rows), 0);
        rows.tick(1);
        Check.same("2:00", openWhenAsked(rows), 1);
        rows.tick(119);
        Check.same("3:59", openWhenAsked(rows), 1);
        rows.tick(1);
        Check.same("4:00", openWhenAsked(rows), 0);
        rows.tick(1320);
        Check.same("2:00 of the second day", openWhenAsked(rows), 1);
    }

    private static void hoursGoThroughMidnight() {
        AidRows rows = new AidRows();
        rows.house(0, 0);
        rows.agree(0, 0, 0, 99_999, 2300, 1);
        Check.same("0:00", openWhenAsked(rows), 1);
        rows.tick(59);
        Check.same("0:59", openWhenAsked(rows), 1);
        rows.tick(1);
        Check.same("1:00", openWhenAsked(rows), 0);
        rows.tick(1319);
        Check.same("22:59", openWhenAsked(rows), 0);
        rows.tick(1);
        Check.same("23:00", openWhenAsked(rows), 1);
        rows.tick(60);
        Check.same("24:00", openWhenAsked(rows), 1);
    }

    /** 1 when an ask of kind 0 finds a house at this minute. */
    private static int openWhenAsked(AidRows rows) {
        int ask = rows.ask(0, 1, 1);
        return rows.askAt(ask, 0) == 0 ? 1 : 0;
    }
}
