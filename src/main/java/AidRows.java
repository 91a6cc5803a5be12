import java.util.Arrays;

/** Aid among houses: agreements, asks, answers, loans, calls handed over and costs. */
public final class AidRows {

    private static final int NONE = -1;
    private static final int LAST_MINUTE = 99_999;
    private static final int MOST_TICK = 2_000;
    private static final int MINUTES_OF_HOUR = 60;
    private static final int HOURS_OF_DAY = 24;

    private static final int MOST_HOUSES = 8;
    private static final int MOST_AGREEMENTS = 30;
    private static final int MOST_ASKS = 30;
    private static final int MOST_LOANS = 100;
    private static final int CALLS = 100;
    private static final int NAMES = 100;
    private static final int NUMBERS = 1_000;

    private static final int MOST_RANK = 9;
    private static final int MOST_PRICE = 1_000;
    private static final int MOST_KIND = 9;
    private static final int MOST_UNITS = 20;
    private static final int MOST_PATIENCE = 500;
    private static final int MOST_ARRIVAL = 999;

    private static final int OPEN = 0;
    private static final int FILLED = 1;
    private static final int GIVEN_UP = 2;

    private static final int NEVER_HEARD = 0;
    private static final int COUNTS = 1;
    private static final int REPEATED = 2;
    private static final int LATE = 3;
    private static final int TOO_MANY = 4;
    private static final int NOT_HEARD = 5;

    private final Houses houses;
    private final Agreements agreements;
    private final Asks asks;
    private final Loans loans;
    private final Numbers numbers;
    private final int[] houseOfCall;
    private int clock;
    private int messagesNotHeard;
    private int messagesRepeated;

    public AidRows() {
        houses = new Houses();
        agreements = new Agreements();
        asks = new Asks();
        loans = new Loans();
        numbers = new Numbers();
        houseOfCall = new int[CALLS];
        Arrays.fill(houseOfCall, NONE);
    }

    public int house(int rank, int price) throws IndexOutOfBoundsException, UnsupportedOperationException {
        if (!isWithin(rank, 0, MOST_RANK) || !isWithin(price, 0, MOST_PRICE)) {
            throw new IndexOutOfBoundsException("rank or price");
        }
        if (houses.isFull()) {
            throw new UnsupportedOperationException("no room for a house");
        }
        return houses.add(rank, price);
    }

    public int agree(int house, int kind, int from, int to, int hours, int units)
            throws IllegalArgumentException, IndexOutOfBoundsException, IllegalStateException,
            UnsupportedOperationException {
        if (!houses.has(house) || !isWithin(kind, 0, MOST_KIND)) {
            throw new IllegalArgumentException("no such house or kind");
        }
        if (!isSpan(from, to) || !isHours(hours) || !isWithin(units, 1, MOST_UNITS)) {
            throw new IndexOutOfBoundsException("minutes, hours or units");
        }
        if (agreements.meetAny(house, kind, from, to)) {
            throw new IllegalStateException("the house has an agreement then");
        }
        if (agreements.isFull()) {
            throw new UnsupportedOperationException("no room for an agreement");
        }
        return agreements.add(house, kind, from, to, hours, units);
    }

    public int ask(int kind, int units, int patience)
            throws IllegalArgumentException, IndexOutOfBoundsException, UnsupportedOperationException {
        if (!isWithin(kind, 0, MOST_KIND)) {
            throw new IllegalArgumentException("no such kind");
        }
        if (!isWithin(units, 1, MOST_UNITS) || !isWithin(patience, 1, MOST_PATIENCE)) {
            throw new IndexOutOfBoundsException("units or patience");
        }
        if (asks.isFull()) {
            throw new UnsupportedOperationException("no room for an ask");
        }
        int ask = asks.add(kind, units, patience);
        sendOn(ask);
        return ask;
    }

    public int message(int ask, int house, int number, int n, int minutes)
            throws IllegalArgumentException, IndexOutOfBoundsException, UnsupportedOperationException {
        if (!asks.has(ask) || !houses.has(house)) {
            throw new IllegalArgumentException("no such ask or house");
        }
        if (!isNumber(number) || !isWithin(n, 0, MOST_UNITS) || (n > 0 && !isWithin(minutes, 0, MOST_ARRIVAL))) {
            throw new IndexOutOfBoundsException("number, units or minutes");
        }
        if (houses.lineCut[house]) {
            messagesNotHeard++;
            return NOT_HEARD;
        }
        if (numbers.stateOf(house, number) != NEVER_HEARD) {
            messagesRepeated++;
            return REPEATED;
        }
        int state = judge(ask, house, n);
        if (state == COUNTS && n > loans.room()) {
            throw new UnsupportedOperationException("no room for the loans");
        }
        numbers.keep(house, number, state);
        if (state == COUNTS) {
            take(ask, house, n, minutes);
        }
        return state;
    }

    public int seen(int house, int number) throws IllegalArgumentException, IndexOutOfBoundsException {
        if (!houses.has(house)) {
            throw new IllegalArgumentException("no such house");
        }
        if (!isNumber(number)) {
            throw new IndexOutOfBoundsException("no such number");
        }
        return numbers.stateOf(house, number);
    }

    public int tick(int minutes) throws IndexOutOfBoundsException {
        if (!isWithin(minutes, 1, MOST_TICK) || clock + minutes > LAST_MINUTE) {
            throw new IndexOutOfBoundsException("minutes");
        }
        int until = clock + minutes;
        int moves = 0;
        for (int step = 0; step < minutes && clock < until; step++) {
            clock = nextEvent(until);
            endLoansWithAgreements();
            moves += sendOnImpatientAsks();
        }
        return moves;
    }

    public void cut(int house, boolean on) throws IllegalArgumentException, IllegalStateException {
        if (!houses.has(house)) {
            throw new IllegalArgumentException("no such house");
        }
        if (houses.lineCut[house] == on) {
            throw new IllegalStateException("the line is so");
        }
        houses.lineCut[house] = on;
    }

    public void end(int loan) throws IllegalArgumentException, IllegalStateException {
        if (!loans.has(loan)) {
            throw new IllegalArgumentException("no such loan");
        }
        if (!loans.isLent(loan)) {
            throw new IllegalStateException("the loan has ended");
        }
        loans.ends[loan] = clock;
    }

    public int askAt(int ask, int what) throws IllegalArgumentException {
        if (!asks.has(ask) || !isWithin(what, 0, 5)) {
            throw new IllegalArgumentException("no such ask or what");
        }
        switch (what) {
            case 0:
                return asks.states[ask];
            case 1:
                return asks.places[ask];
            case 2:
                return asks.since[ask];
            case 3:
                return asks.told[ask];
            case 4:
                return asks.visits(ask);
            default:
                return asks.lost[ask] ? 1 : 0;
        }
    }

    public int loanAt(int loan, int what) throws IllegalArgumentException {
        if (!loans.has(loan) || !isWithin(what, 0, 6)) {
            throw new IllegalArgumentException("no such loan or what");
        }
        switch (what) {
            case 0:
                return loans.houses[loan];
            case 1:
                return loans.names[loan];
            case 2:
                return loans.asks[loan];
            case 3:
                return loans.agreements[loan];
            case 4:
                return loans.begins[loan];
            case 5:
                return loans.ends[loan];
            default:
                return costOfLoan(loan);
        }
    }

    public int cost(int house) throws IllegalArgumentException {
        if (!houses.has(house)) {
            throw new IllegalArgumentException("no such house");
        }
        int sum = 0;
        for (int loan = 0; loan < loans.made; loan++) {
            if (loans.houses[loan] == house) {
                sum += costOfLoan(loan);
            }
        }
        return sum;
    }

    public int named(int name) {
        return loans.bearerOf(name);
    }

    public void hand(int call, int house) throws IllegalArgumentException, IllegalStateException {
        if (!isCall(call) || !houses.has(house)) {
            throw new IllegalArgumentException("no such call or house");
        }
        if (houseOfCall[call] != NONE || houses.lineCut[house]) {
            throw new IllegalStateException("the call was handed over, or the line is cut");
        }
        houseOfCall[call] = house;
    }

    public int handed(int call) throws IllegalArgumentException {
        if (!isCall(call)) {
            throw new IllegalArgumentException("no such call");
        }
        return houseOfCall[call];
    }

    public int count(int what) throws IllegalArgumentException {
        switch (what) {
            case 0:
                return clock;
            case 1:
                return loans.lent();
            case 2:
                return asks.open();
            case 3:
                return messagesNotHeard;
            case 4:
                return messagesRepeated;
            default:
                throw new IllegalArgumentException("no such what");
        }
    }

    private static boolean isWithin(int value, int least, int most) {
        return value >= least && value <= most;
    }

    private static boolean isSpan(int from, int to) {
        return from >= 0 && from < to && to <= LAST_MINUTE;
    }

    private static boolean isHours(int hours) {
        return hours >= 0 && hours / 100 < HOURS_OF_DAY && hours % 100 < HOURS_OF_DAY;
    }

    private static boolean isNumber(int number) {
        return isWithin(number, 0, NUMBERS - 1);
    }

    private static boolean isCall(int call) {
        return isWithin(call, 0, CALLS - 1);
    }

    private void sendOn(int ask) {
        int next = nextHouse(ask);
        if (next == NONE) {
            asks.close(ask, GIVEN_UP);
        } else {
            asks.move(ask, next, clock, houses.lineCut[next]);
        }
    }

    /** A later house must have a higher rank to be chosen, so among equal ranks the lowest number stays. */
    private int nextHouse(int ask) {
        int best = NONE;
        for (int house = 0; house < houses.made; house++) {
            boolean can = !asks.wasAt(ask, house) && agreements.holding(house, asks.kinds[ask], clock) != NONE;
            if (can && (best == NONE || houses.ranks[house] > houses.ranks[best])) {
                best = house;
            }
        }
        return best;
    }

    private int judge(int ask, int house, int n) {
        if (!asks.isOpenAt(ask, house)) {
            return LATE;
        }
        boolean yes = n > 0;
        return yes && n > mostToTake(ask, house) ? TOO_MANY : COUNTS;
    }

    private int mostToTake(int ask, int house) {
        int agreement = agreements.holding(house, asks.kinds[ask], clock);
        if (agreement == NONE) {
            return 0;
        }
        return Math.min(asks.wanting(ask), agreements.units[agreement] - loans.lentUnder(agreement));
    }

    private void take(int ask, int house, int n, int minutes) {
        if (n > 0) {
            lend(ask, house, n, clock + minutes);
        }
        if (asks.wanting(ask) == 0) {
            asks.close(ask, FILLED);
        } else {
            sendOn(ask);
        }
    }

    private void lend(int ask, int house, int n, int begin) {
        int agreement = agreements.holding(house, asks.kinds[ask], clock);
        for (int i = 0; i < n; i++) {
            loans.add(house, ask, agreement, begin);
        }
        asks.told[ask] += n;
    }

    /** Minutes at which no patience and no agreement of a loan runs out change nothing, so tick passes them over. */
    private int nextEvent(int until) {
        int next = until;
        for (int ask = 0; ask < asks.made; ask++) {
            if (asks.isOpen(ask)) {
                next = Math.min(next, asks.patienceEnd(ask));
            }
        }
        for (int loan = 0; loan < loans.made; loan++) {
            if (loans.isLent(loan)) {
                next = Math.min(next, agreements.to[loans.agreements[loan]]);
            }
        }
        return next;
    }

    private void endLoansWithAgreements() {
        for (int loan = 0; loan < loans.made; loan++) {
            if (loans.isLent(loan) && agreements.to[loans.agreements[loan]] <= clock) {
                loans.ends[loan] = clock;
            }
        }
    }

    private int sendOnImpatientAsks() {
        int moves = 0;
        for (int ask = 0; ask < asks.made; ask++) {
            if (asks.isOpen(ask) && asks.patienceEnd(ask) <= clock) {
                sendOn(ask);
                moves++;
            }
        }
        return moves;
    }

    private int costOfLoan(int loan) {
        int stop = loans.isLent(loan) ? clock : loans.ends[loan];
        int minutes = stop - loans.begins[loan];
        if (minutes <= 0) {
            return 0;
        }
        int begunHours = (minutes + MINUTES_OF_HOUR - 1) / MINUTES_OF_HOUR;
        return begunHours * houses.prices[loans.houses[loan]];
    }

    private static final class Houses {
        final int[] ranks = new int[MOST_HOUSES];
        final int[] prices = new int[MOST_HOUSES];
        final boolean[] lineCut = new boolean[MOST_HOUSES];
        int made;

        boolean has(int house) {
            return house >= 0 && house < made;
        }

        boolean isFull() {
            return made >= MOST_HOUSES;
        }

        int add(int rank, int price) {
            ranks[made] = rank;
            prices[made] = price;
            return made++;
        }
    }

    private static final class Agreements {
        final int[] houses = new int[MOST_AGREEMENTS];
        final int[] kinds = new int[MOST_AGREEMENTS];
        final int[] from = new int[MOST_AGREEMENTS];
        final int[] to = new int[MOST_AGREEMENTS];
        final int[] hours = new int[MOST_AGREEMENTS];
        final int[] units = new int[MOST_AGREEMENTS];
        int made;

        boolean isFull() {
            return made >= MOST_AGREEMENTS;
        }

        int add(int house, int kind, int first, int last, int hoursOfDay, int most) {
            houses[made] = house;
            kinds[made] = kind;
            from[made] = first;
            to[made] = last;
            hours[made] = hoursOfDay;
            units[made] = most;
            return made++;
        }

        boolean meetAny(int house, int kind, int first, int last) {
            for (int i = 0; i < made; i++) {
                if (houses[i] == house && kinds[i] == kind && from[i] < last && first < to[i]) {
                    return true;
                }
            }
            return false;
        }

        /** No two agreements of a house and kind share a minute, so there is at most one to find. */
        int holding(int house, int kind, int minute) {
            for (int i = 0; i < made; i++) {
                if (houses[i] == house && kinds[i] == kind && holdsAt(i, minute)) {
                    return i;
                }
            }
            return NONE;
        }

        private boolean holdsAt(int agreement, int minute) {
            if (minute < from[agreement] || minute >= to[agreement]) {
                return false;
            }
            int hour = minute / MINUTES_OF_HOUR % HOURS_OF_DAY;
            int first = hours[agreement] / 100;
            int last = hours[agreement] % 100;
            boolean throughMidnight = last < first;
            return throughMidnight ? hour >= first || hour <= last : hour >= first && hour <= last;
        }
    }

    private static final class Asks {
        final int[] kinds = new int[MOST_ASKS];
        final int[] units = new int[MOST_ASKS];
        final int[] patiences = new int[MOST_ASKS];
        final int[] states = new int[MOST_ASKS];
        final int[] places = new int[MOST_ASKS];
        final int[] since = new int[MOST_ASKS];
        final int[] told = new int[MOST_ASKS];
        /** A bit for each house, as there are only eight. */
        final int[] visited = new int[MOST_ASKS];
        final boolean[] lost = new boolean[MOST_ASKS];
        int made;

        boolean has(int ask) {
            return ask >= 0 && ask < made;
        }

        boolean isFull() {
            return made >= MOST_ASKS;
        }

        int add(int kind, int wanted, int patience) {
            kinds[made] = kind;
            units[made] = wanted;
            patiences[made] = patience;
            states[made] = OPEN;
            return made++;
        }

        void move(int ask, int house, int minute, boolean lineIsCut) {
            places[ask] = house;
            since[ask] = minute;
            visited[ask] |= 1 << house;
            lost[ask] = lineIsCut;
        }

        void close(int ask, int state) {
            states[ask] = state;
            places[ask] = NONE;
            since[ask] = 0;
            lost[ask] = false;
        }

        boolean isOpen(int ask) {
            return states[ask] == OPEN;
        }

        boolean isOpenAt(int ask, int house) {
            return isOpen(ask) && places[ask] == house;
        }

        boolean wasAt(int ask, int house) {
            return (visited[ask] >> house & 1) == 1;
        }

        int visits(int ask) {
            return Integer.bitCount(visited[ask]);
        }

        int wanting(int ask) {
            return units[ask] - told[ask];
        }

        int patienceEnd(int ask) {
            return since[ask] + patiences[ask];
        }

        int open() {
            int sum = 0;
            for (int ask = 0; ask < made; ask++) {
                if (isOpen(ask)) {
                    sum++;
                }
            }
            return sum;
        }
    }

    private static final class Loans {
        final int[] houses = new int[MOST_LOANS];
        final int[] names = new int[MOST_LOANS];
        final int[] asks = new int[MOST_LOANS];
        final int[] agreements = new int[MOST_LOANS];
        final int[] begins = new int[MOST_LOANS];
        final int[] ends = new int[MOST_LOANS];
        int made;

        boolean has(int loan) {
            return loan >= 0 && loan < made;
        }

        int room() {
            return MOST_LOANS - made;
        }

        void add(int house, int ask, int agreement, int begin) {
            names[made] = freeName(house);
            houses[made] = house;
            asks[made] = ask;
            agreements[made] = agreement;
            begins[made] = begin;
            ends[made] = NONE;
            made++;
        }

        /** There are as many names of a house as loans in all, so one is free while there is room for a loan. */
        private int freeName(int house) {
            int name = house * NAMES;
            for (int i = 0; i < NAMES - 1 && bearerOf(name) != NONE; i++) {
                name++;
            }
            return name;
        }

        int bearerOf(int name) {
            for (int loan = 0; loan < made; loan++) {
                if (names[loan] == name && isLent(loan)) {
                    return loan;
                }
            }
            return NONE;
        }

        boolean isLent(int loan) {
            return ends[loan] == NONE;
        }

        int lent() {
            int sum = 0;
            for (int loan = 0; loan < made; loan++) {
                if (isLent(loan)) {
                    sum++;
                }
            }
            return sum;
        }

        int lentUnder(int agreement) {
            int sum = 0;
            for (int loan = 0; loan < made; loan++) {
                if (agreements[loan] == agreement && isLent(loan)) {
                    sum++;
                }
            }
            return sum;
        }
    }

    /** The states of all numbers of all houses, four bits each: a plain row would be the dearest of a new object. */
    private static final class Numbers {
        private static final int STATES_IN_LONG = 16;
        private static final int BITS = 4;
        private static final int MASK = 15;
        private final long[] packed = new long[MOST_HOUSES * NUMBERS / STATES_IN_LONG];

        int stateOf(int house, int number) {
            int place = placeOf(house, number);
            return (int) (packed[place / STATES_IN_LONG] >>> shiftOf(place)) & MASK;
        }

        /** Only a number that was never heard is kept, so its bits are still 0. */
        void keep(int house, int number, int state) {
            int place = placeOf(house, number);
            packed[place / STATES_IN_LONG] |= (long) state << shiftOf(place);
        }

        private static int placeOf(int house, int number) {
            return house * NUMBERS + number;
        }

        private static int shiftOf(int place) {
            return place % STATES_IN_LONG * BITS;
        }
    }
}
