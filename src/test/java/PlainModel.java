import java.util.ArrayList;
import java.util.HashMap;
import java.util.HashSet;
import java.util.List;
import java.util.Map;
import java.util.Set;

/** The document told again in another way, minute by minute and with the library's lists and maps. */
public final class PlainModel {
    private record House(int rank, int price) {
    }

    private record Agreement(int house, int kind, int from, int to, int hours, int units) {
        boolean holds(int minute) {
            if (minute < from || minute >= to) {
                return false;
            }
            int hour = minute / 60 % 24;
            int walk = hours / 100;
            while (walk != hour) {
                if (walk == hours % 100) {
                    return false;
                }
                walk = (walk + 1) % 24;
            }
            return true;
        }
    }

    private static final class Ask {
        final int kind;
        final int units;
        final int patience;
        final Set<Integer> visited = new HashSet<>();
        int state;
        int house = -1;
        int since;
        int told;
        boolean lost;

        Ask(int kind, int units, int patience) {
            this.kind = kind;
            this.units = units;
            this.patience = patience;
        }
    }

    private static final class Loan {
        int house;
        int name;
        int ask;
        int agreement;
        int begin;
        Integer end;
    }

    private final List<House> houses = new ArrayList<>();
    private final Set<Integer> cutHouses = new HashSet<>();
    private final List<Agreement> agreements = new ArrayList<>();
    private final List<Ask> asks = new ArrayList<>();
    private final List<Loan> loans = new ArrayList<>();
    private final Map<Integer, Integer> heard = new HashMap<>();
    private final Map<Integer, Integer> calls = new HashMap<>();
    private int now;
    private int unheard;
    private int again;

    private static void known(boolean so) {
        if (!so) {
            throw new IllegalArgumentException();
        }
    }

    private static void range(int value, int least, int most) {
        if (value < least || value > most) {
            throw new IndexOutOfBoundsException();
        }
    }

    private static void state(boolean so) {
        if (!so) {
            throw new IllegalStateException();
        }
    }

    private static void room(boolean so) {
        if (!so) {
            throw new UnsupportedOperationException();
        }
    }

    private static boolean in(int index, List<?> list) {
        return index >= 0 && index < list.size();
    }

    public int house(int rank, int price) {
        range(rank, 0, 9);
        range(price, 0, 1000);
        room(houses.size() < 8);
        houses.add(new House(rank, price));
        return houses.size() - 1;
    }

    public int agree(int house, int kind, int from, int to, int hours, int units) {
        known(in(house, houses) && kind >= 0 && kind < 10);
        range(from, 0, 99_999);
        range(to, 0, 99_999);
        range(from, 0, to - 1);
        range(hours, 0, 2323);
        range(hours % 100, 0, 23);
        range(units, 1, 20);
        for (Agreement a : agreements) {
            state(a.house != house || a.kind != kind || Math.max(a.from, from) >= Math.min(a.to, to));
        }
        room(agreements.size() < 30);
        agreements.add(new Agreement(house, kind, from, to, hours, units));
        return agreements.size() - 1;
    }

    public int ask(int kind, int units, int patience) {
        known(kind >= 0 && kind < 10);
        range(units, 1, 20);
        range(patience, 1, 500);
        room(asks.size() < 30);
        Ask ask = new Ask(kind, units, patience);
        asks.add(ask);
        goOn(ask);
        return asks.size() - 1;
    }

    private int agreementNow(int house, int kind) {
        for (int i = 0; i < agreements.size(); i++) {
            Agreement a = agreements.get(i);
            if (a.house == house && a.kind == kind && a.holds(now)) {
                return i;
            }
        }
        return -1;
    }

    private void goOn(Ask ask) {
        for (int rank = 9; rank >= 0; rank--) {
            for (int h = 0; h < houses.size(); h++) {
                if (houses.get(h).rank == rank && !ask.visited.contains(h) && agreementNow(h, ask.kind) >= 0) {
                    ask.visited.add(h);
                    ask.house = h;
                    ask.since = now;
                    ask.lost = cutHouses.contains(h);
                    return;
                }
            }
        }
        ask.state = 2;
    }

    public int message(int ask, int house, int number, int n, int minutes) {
        known(in(ask, asks) && in(house, houses));
        range(number, 0, 999);
        range(n, 0, 20);
        if (n != 0) {
            range(minutes, 0, 999);
        }
        int key = house * 1000 + number;
        if (cutHouses.contains(house)) {
            unheard++;
            return 5;
        }
        if (heard.containsKey(key)) {
            again++;
            return 2;
        }
        Ask a = asks.get(ask);
        int state = 1;
        int agreement = agreementNow(house, a.kind);
        if (a.state != 0 || a.house != house) {
            state = 3;
        } else if (n > 0 && (agreement < 0 || a.told + n > a.units
                || loans.stream().filter(l -> l.end == null && l.agreement == agreement).count() + n
                > agreements.get(agreement).units)) {
            state = 4;
        }
        room(state != 1 || loans.size() + n <= 100);
        heard.put(key, state);
        if (state == 1) {
            counts(ask, a, agreement, n, now + minutes);
        }
        return state;
    }

    private void counts(int number, Ask ask, int agreement, int n, int begin) {
        for (int i = 0; i < n; i++) {
            Loan loan = new Loan();
            loan.house = ask.house;
            loan.ask = number;
            loan.agreement = agreement;
            loan.begin = begin;
            loan.name = ask.house * 100;
            while (named(loan.name) >= 0) {
                loan.name++;
            }
            loans.add(loan);
        }
        ask.told += n;
        if (ask.told == ask.units) {
            ask.state = 1;
        } else {
            goOn(ask);
        }
    }

    public int seen(int house, int number) {
        known(in(house, houses));
        range(number, 0, 999);
        return heard.getOrDefault(house * 1000 + number, 0);
    }

    public int tick(int minutes) {
        range(minutes, 1, 2000);
        range(now + minutes, 0, 99_999);
        int times = 0;
        for (int m = 0; m < minutes; m++) {
            now++;
            for (Loan loan : loans) {
                if (loan.end == null && agreements.get(loan.agreement).to == now) {
                    loan.end = now;
                }
            }
            for (Ask ask : asks) {
                if (ask.state == 0 && now - ask.since == ask.patience) {
                    goOn(ask);
                    times++;
                }
            }
        }
        return times;
    }

    public void cut(int house, boolean on) {
        known(in(house, houses));
        state(on ? cutHouses.add(house) : cutHouses.remove(house));
    }

    public void end(int loan) {
        known(in(loan, loans));
        state(loans.get(loan).end == null);
        loans.get(loan).end = now;
    }

    public int askAt(int ask, int what) {
        known(in(ask, asks) && what >= 0 && what < 6);
        Ask a = asks.get(ask);
        boolean open = a.state == 0;
        int[] answers = {a.state, open ? a.house : -1, open ? a.since : 0, a.told, a.visited.size(),
            open && a.lost ? 1 : 0};
        return answers[what];
    }

    private int price(Loan loan) {
        int stop = loan.end == null ? now : loan.end;
        int sum = 0;
        for (int minute = loan.begin; minute < stop; minute += 60) {
            sum += houses.get(loan.house).price;
        }
        return sum;
    }

    public int loanAt(int loan, int what) {
        known(in(loan, loans) && what >= 0 && what < 7);
        Loan l = loans.get(loan);
        int[] answers = {l.house, l.name, l.ask, l.agreement, l.begin, l.end == null ? -1 : l.end, price(l)};
        return answers[what];
    }

    public int cost(int house) {
        known(in(house, houses));
        return loans.stream().filter(l -> l.house == house).mapToInt(this::price).sum();
    }

    public int named(int name) {
        for (int i = 0; i < loans.size(); i++) {
            if (loans.get(i).name == name && loans.get(i).end == null) {
                return i;
            }
        }
        return -1;
    }

    public void hand(int call, int house) {
        known(call >= 0 && call < 100 && in(house, houses));
        state(!calls.containsKey(call) && !cutHouses.contains(house));
        calls.put(call, house);
    }

    public int handed(int call) {
        known(call >= 0 && call < 100);
        return calls.getOrDefault(call, -1);
    }

    public int count(int what) {
        known(what >= 0 && what < 5);
        int[] answers = {now, (int) loans.stream().filter(l -> l.end == null).count(),
            (int) asks.stream().filter(a -> a.state == 0).count(), unheard, again};
        return answers[what];
    }
}
