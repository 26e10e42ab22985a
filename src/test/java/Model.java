import java.util.ArrayList;
import java.util.Arrays;
import java.util.List;

/** The document written a second time, slowly and word by word: the hand falls cent by cent, orders are all tried. */
final class Model {
    static final class Lot {
        int kind;
        int sort;
        int grower;
        int stems;
        int least;
        int extra;
        int found = -2;
        int sold;
        boolean offered;
    }

    static final class Payment {
        int buyer;
        int lot;
        int stems;
        int cents;
        int day;
        int claim;
    }

    static final class Buyer {
        long credit;
        int bought;
        int[] want = new int[6];
        int[] limit = new int[6];

        Buyer twin() {
            Buyer twin = new Buyer();
            twin.credit = credit;
            twin.bought = bought;
            twin.want = want.clone();
            twin.limit = limit.clone();
            return twin;
        }
    }

    private final List<Integer> dues = new ArrayList<>();
    private final List<Lot> lots = new ArrayList<>();
    private List<Buyer> buyers = new ArrayList<>();
    private List<Payment> payments = new ArrayList<>();
    private int day;
    private int crushed;
    private int room = 400;
    // A shelf holds null, {weight, mark or -15} of a lot as int[], or a row as Short[] or Long[].
    private final Object[] shelves = new Object[8];

    private static boolean in(int value, int from, int to) {
        return from <= value && value <= to;
    }

    int grower(int due) {
        if (!in(due, 0, 100)) return -1;
        if (dues.size() == 10) return -2;
        dues.add(due);
        return dues.size() - 1;
    }

    int lot(int told, int stems, int least, int extra) {
        if (told < 0 || told > 399) return -1;
        Lot lot = new Lot();
        lot.kind = told / 100;
        lot.sort = told % 100 / 10;
        lot.grower = told % 10;
        lot.stems = stems;
        lot.least = least;
        lot.extra = lot.kind == 0 ? -2 : extra;
        if (lot.sort > 5 || lot.grower >= dues.size() || !in(stems, 1, 1000) || !in(least, 0, 99)) return -1;
        if ((lot.kind == 1 || lot.kind == 2) && !in(extra, 1, 3)) return -1;
        if (lot.kind == 3 && !in(extra, 0, 1000)) return -1;
        if (lots.size() == 40) return -2;
        lots.add(lot);
        return lots.size() - 1;
    }

    int found(int lot, int quality) {
        if (!in(lot, 0, lots.size() - 1) || !in(quality, 0, 3)) return -1;
        Lot it = lots.get(lot);
        if (it.kind == 0 || it.kind == 3) return -3;
        int before = it.found;
        it.found = quality;
        return before;
    }

    int buyer(int credit) {
        if (!in(credit, 0, 1000000)) return -1;
        if (buyers.size() == 12) return -2;
        Buyer buyer = new Buyer();
        buyer.credit = credit;
        buyers.add(buyer);
        return buyers.size() - 1;
    }

    int want(int buyer, int sort, int stems, int limit) {
        if (!in(buyer, 0, buyers.size() - 1) || !in(sort, 0, 5) || !in(stems, 0, 1000) || !in(limit, 0, 99)) return -1;
        Buyer it = buyers.get(buyer);
        int before = it.want[sort];
        it.want[sort] = stems;
        it.limit[sort] = limit;
        return before;
    }

    int credit(int buyer, int cents) {
        if (!in(buyer, 0, buyers.size() - 1) || !in(cents, 0, 1000000)) return -1;
        int before = (int) buyers.get(buyer).credit;
        buyers.get(buyer).credit = cents;
        return before;
    }

    private int worthOf(Buyer buyer, Lot lot) {
        int worth = buyer.limit[lot.sort];
        if ((lot.kind == 1 || lot.kind == 2) && lot.found >= 0) {
            for (int step = lot.found; step < lot.extra; step++) worth -= 10;
        }
        if (lot.kind == 2) worth += 3;
        if (lot.kind == 3 && (lot.extra == day || lot.extra == day + 1 || lot.extra == day + 2)) worth += 5;
        if (worth < 0) return 0;
        if (worth > 99) return 99;
        return worth;
    }

    int worth(int buyer, int lot) {
        if (!in(buyer, 0, buyers.size() - 1) || !in(lot, 0, lots.size() - 1)) return -1;
        return worthOf(buyers.get(buyer), lots.get(lot));
    }

    int look(int lot, int what) {
        if (!in(lot, 0, lots.size() - 1) || !in(what, 0, 8)) return -1;
        Lot it = lots.get(lot);
        int[] all = {it.kind, it.grower, it.sort, it.stems, it.least, it.extra, it.found, it.offered ? 1 : 0, it.sold};
        return all[what];
    }

    int about(int buyer, int what) {
        if (!in(buyer, 0, buyers.size() - 1) || !in(what, 0, 13)) return -1;
        Buyer it = buyers.get(buyer);
        if (what == 0) return (int) it.credit;
        if (what == 1) return it.bought;
        return what < 8 ? it.want[what - 2] : it.limit[what - 8];
    }

    private long net(int grower, long cents) {
        return cents - cents * dues.get(grower) / 100;
    }

    private long takingsOf(int grower, int fromPayment) {
        long takings = 0;
        for (Payment payment : payments.subList(fromPayment, payments.size())) {
            if (lots.get(payment.lot).grower == grower) {
                takings += net(grower, (long) payment.stems * payment.cents);
                takings -= net(grower, (long) payment.claim * payment.cents);
            }
        }
        return takings;
    }

    long takings(int grower) {
        if (!in(grower, 0, dues.size() - 1)) throw new IllegalArgumentException();
        return takingsOf(grower, 0);
    }

    private int stopper(Lot lot, int p) {
        int best = -1;
        for (int seat = 0; seat < buyers.size(); seat++) {
            Buyer buyer = buyers.get(seat);
            if (worthOf(buyer, lot) < p || buyer.want[lot.sort] < 1 || buyer.credit < p) continue;
            if (best < 0) {
                best = seat;
                continue;
            }
            Buyer other = buyers.get(best);
            if (worthOf(buyer, lot) > worthOf(other, lot)) best = seat;
            else if (worthOf(buyer, lot) == worthOf(other, lot) && buyer.bought < other.bought) best = seat;
        }
        return best;
    }

    private int sale(int number) {
        Lot lot = lots.get(number);
        int left = lot.stems;
        int p = 99;
        while (left > 0 && p >= lot.least) {
            int seat = stopper(lot, p);
            if (seat < 0) {
                p--;
                continue;
            }
            if (payments.size() >= room) break;
            Buyer buyer = buyers.get(seat);
            int n = Math.min(left, buyer.want[lot.sort]);
            if (p > 0) n = (int) Math.min(n, buyer.credit / p);
            Payment payment = new Payment();
            payment.buyer = seat;
            payment.lot = number;
            payment.stems = n;
            payment.cents = p;
            payment.day = day;
            payments.add(payment);
            buyer.credit -= (long) n * p;
            buyer.want[lot.sort] -= n;
            buyer.bought += n;
            left -= n;
        }
        return lot.stems - left;
    }

    private int realSale(int number) {
        int sold = sale(number);
        Lot lot = lots.get(number);
        lot.stems -= sold;
        lot.sold += sold;
        lot.offered = true;
        return sold;
    }

    int sell(int lot) {
        if (!in(lot, 0, lots.size() - 1)) return -1;
        if (lots.get(lot).offered || lots.get(lot).stems == 0) return -3;
        return realSale(lot);
    }

    private List<Integer> open() {
        List<Integer> open = new ArrayList<>();
        for (int i = 0; i < lots.size(); i++) {
            if (!lots.get(i).offered && lots.get(i).stems > 0) open.add(i);
        }
        return open;
    }

    /** TAKINGS by all GROWERS, were these LOTS sold in this order; all is as before afterwards. */
    private long[] tried(List<Integer> order) {
        List<Buyer> realBuyers = buyers;
        List<Payment> realPayments = payments;
        buyers = new ArrayList<>();
        for (Buyer buyer : realBuyers) buyers.add(buyer.twin());
        payments = new ArrayList<>();
        room = Integer.MAX_VALUE;
        for (int lot : order) sale(lot);
        long[] takings = new long[dues.size()];
        for (int g = 0; g < takings.length; g++) takings[g] = takingsOf(g, 0);
        buyers = realBuyers;
        payments = realPayments;
        room = 400;
        return takings;
    }

    private void permute(List<Integer> done, List<Integer> left, List<List<Integer>> all) {
        if (left.isEmpty()) all.add(done);
        for (Integer lot : left) {
            List<Integer> more = new ArrayList<>(done);
            more.add(lot);
            List<Integer> less = new ArrayList<>(left);
            less.remove(lot);
            permute(more, less, all);
        }
    }

    private static boolean lessAsRow(List<Integer> a, List<Integer> b) {
        for (int i = 0; i < a.size(); i++) {
            if (!a.get(i).equals(b.get(i))) return a.get(i) < b.get(i);
        }
        return false;
    }

    private List<Integer> best() {
        List<List<Integer>> all = new ArrayList<>();
        permute(new ArrayList<>(), open(), all);
        List<Integer> best = null;
        long bestSum = 0;
        long bestLeast = 0;
        for (List<Integer> order : all) {
            long[] takings = tried(order);
            long sum = Arrays.stream(takings).sum();
            long least = order.stream().mapToLong(lot -> takings[lots.get(lot).grower]).min().orElse(0);
            boolean better = best == null || sum > bestSum || sum == bestSum && least > bestLeast
                || sum == bestSum && least == bestLeast && lessAsRow(order, best);
            if (better) {
                best = order;
                bestSum = sum;
                bestLeast = least;
            }
        }
        return best;
    }

    private List<Integer> turns() {
        List<Integer> left = open();
        List<Integer> order = new ArrayList<>();
        int[] had = new int[10];
        while (!left.isEmpty()) {
            int grower = -1;
            for (int g = 9; g >= 0; g--) {
                int of = g;
                boolean hasOne = left.stream().anyMatch(lot -> lots.get(lot).grower == of);
                if (hasOne && (grower < 0 || had[g] <= had[grower])) grower = g;
            }
            for (Integer lot : left) {
                if (lots.get(lot).grower == grower) {
                    order.add(lot);
                    left.remove(lot);
                    had[grower]++;
                    break;
                }
            }
        }
        return order;
    }

    private List<Integer> order(int order) {
        return order == 0 ? open() : order == 1 ? best() : turns();
    }

    int round(int order) {
        if (!in(order, 0, 2)) return -1;
        if (order == 1 && open().size() > 6) return -5;
        int sold = 0;
        for (int lot : order(order)) sold += realSale(lot);
        return sold;
    }

    int place(int order, int i) {
        if (!in(order, 0, 2) || i < 0) return -1;
        if (order == 1 && open().size() > 6) return -5;
        List<Integer> found = order(order);
        return i >= found.size() ? -3 : found.get(i);
    }

    long would(int order) {
        if (!in(order, 0, 2)) throw new IllegalArgumentException();
        if (order == 1 && open().size() > 6) throw new IllegalStateException();
        return Arrays.stream(tried(order(order))).sum();
    }

    private int[] foretell(int sort) {
        Lot lot = new Lot();
        lot.sort = sort;
        for (int p = 99; p >= 0; p--) {
            if (stopper(lot, p) >= 0) return new int[] {p, stopper(lot, p)};
        }
        return new int[] {-2, -2};
    }

    int foretold(int sort) {
        return in(sort, 0, 5) ? foretell(sort)[0] : -1;
    }

    int first(int sort) {
        return in(sort, 0, 5) ? foretell(sort)[1] : -1;
    }

    int close() {
        if (day == 1000) return -2;
        int gone = 0;
        for (Lot lot : lots) {
            if (lot.offered && lot.kind != 2) {
                gone += lot.stems;
                lot.stems = 0;
            }
            lot.offered = false;
        }
        for (Buyer buyer : buyers) buyer.bought = 0;
        day++;
        crushed += gone;
        return gone;
    }

    int payment(int k, int what) {
        if (!in(k, 0, payments.size() - 1) || !in(what, 0, 5)) return -1;
        Payment it = payments.get(k);
        return new int[] {it.buyer, it.lot, it.stems, it.cents, it.day, it.claim}[what];
    }

    int claim(int payment, int n) {
        if (!in(payment, 0, payments.size() - 1) || n < 1) return -1;
        Payment it = payments.get(payment);
        if (it.claim > 0 || it.stems < n) return -3;
        it.claim = n;
        buyers.get(it.buyer).credit += (long) n * it.cents;
        return n * it.cents;
    }

    /** For each PAYMENT of THE DAY the minutes of its CARTS, by letting each DOCK take one a minute. */
    private int[] lastMinutes(int dock) {
        int[] last = new int[payments.size()];
        int minute = 0;
        for (int k = 0; k < payments.size(); k++) {
            Payment it = payments.get(k);
            if (it.day != day || it.buyer % 4 != dock) continue;
            for (int stems = it.stems; stems > 0; stems -= 40) last[k] = ++minute;
        }
        return last;
    }

    int cart(int payment) {
        if (!in(payment, 0, payments.size() - 1)) return -1;
        if (payments.get(payment).day != day) return -3;
        return lastMinutes(payments.get(payment).buyer % 4)[payment];
    }

    int dock(int dock) {
        return in(dock, 0, 3) ? Arrays.stream(lastMinutes(dock)).max().orElse(0) : -1;
    }

    long bill(int buyer, int day) {
        if (!in(buyer, 0, buyers.size() - 1) || !in(day, 0, 1000)) throw new IllegalArgumentException();
        long bill = 0;
        for (Payment it : payments) {
            if (it.buyer == buyer && it.day == day) bill += it.stems * it.cents - it.claim * it.cents;
        }
        return bill;
    }

    int count(int what) {
        if (!in(what, 0, 7)) return -1;
        int claims = (int) payments.stream().filter(it -> it.claim > 0).count();
        return new int[] {dues.size(), lots.size(), buyers.size(), day, payments.size(), crushed, claims,
            open().size()}[what];
    }

    private int[] keptLot(Lot lot) {
        int weight = 10 + lot.stems;
        if (lot.kind == 1 || lot.kind == 2) weight += 100 * lot.extra;
        if (lot.kind == 2) weight *= 2;
        if (lot.kind == 3) weight += lot.extra;
        return new int[] {weight, lot.kind == 1 || lot.kind == 2 ? lot.extra : -15};
    }

    int keep(int d, int what, int k) {
        if (!in(d, 0, 7)) return -1;
        if (what == 0) {
            shelves[d] = null;
        } else if (what == 1 && in(k, 0, lots.size() - 1)) {
            shelves[d] = keptLot(lots.get(k));
        } else if (what == 3 && in(k, 0, buyers.size() - 1)) {
            Short[] row = new Short[12];
            for (int i = 0; i < 12; i++) row[i] = (short) about(k, 2 + i);
            shelves[d] = row;
        } else if (what == 4) {
            Long[] row = new Long[dues.size()];
            for (int i = 0; i < row.length; i++) row[i] = takings(i);
            shelves[d] = row;
        } else {
            return -1;
        }
        return 0;
    }

    int make(int d, int what, int n) {
        if (!in(d, 0, 7) || what != 3 && what != 4 || n > 60) return -1;
        if (n < 0) return -14;
        if (what == 3) {
            Short[] row = new Short[n];
            Arrays.fill(row, (short) 0);
            shelves[d] = row;
        } else {
            Long[] row = new Long[n];
            Arrays.fill(row, 0L);
            shelves[d] = row;
        }
        return 0;
    }

    long element(int d, int i) {
        if (!in(d, 0, 7)) throw new IllegalArgumentException();
        if (!(shelves[d] instanceof Number[] row) || !in(i, 0, row.length - 1)) throw new IllegalStateException();
        return row[i].longValue();
    }

    int copy(int d, int i, int e, int j, int n) {
        if (!in(d, 0, 7) || !in(e, 0, 7)) return -1;
        if (shelves[d] == null || shelves[e] == null) return -11;
        if (shelves[d] instanceof int[] || shelves[d].getClass() != shelves[e].getClass()) return -12;
        Number[] from = ((Number[]) shelves[d]).clone();
        Number[] to = (Number[]) shelves[e];
        if (n < 0 || i < 0 || j < 0 || (long) i + n > from.length || (long) j + n > to.length) return -13;
        for (int k = 0; k < n; k++) to[j + k] = from[i + k];
        return n;
    }

    private int ofLot(int d, int which) {
        if (!in(d, 0, 7)) return -1;
        if (shelves[d] == null) return -11;
        return shelves[d] instanceof int[] lot ? lot[which] : -12;
    }

    int weight(int d) {
        return ofLot(d, 0);
    }

    int toss(int d) {
        return ofLot(d, 1);
    }
}
