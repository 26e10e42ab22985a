import java.util.Arrays;

/** A flower clock: lots of stems sold by a hand that falls. README.md tells how it is used. */
public final class FlowerClock {
    private static final int MOST_GROWERS = 10;
    private static final int MOST_LOTS = 40;
    private static final int MOST_BUYERS = 12;
    private static final int MOST_PAYMENTS = 400;
    private static final int SORTS = 6;

    private static final int TOP_DUE = 100;
    private static final int TOP_STEMS = 1000;
    private static final int TOP_CENTS = 99;
    private static final int TOP_CREDIT = 1000000;
    private static final int TOP_MARK = 3;
    private static final int LAST_DAY = 1000;

    private static final int PLAIN = 0;
    private static final int MARKED = 1;
    private static final int COOLED = 2;
    private static final int FEAST = 3;

    private static final int BY_NUMBERS = 0;
    private static final int BEST = 1;
    private static final int TURNS = 2;
    private static final int MOST_IN_BEST = 6;
    private static final int MOST_PATHS = 720;

    private static final int DOCKS = 4;
    private static final int CART_STEMS = 40;

    private static final int SHELVES = 8;
    private static final int MOST_IN_ROW = 60;
    private static final int NOTHING = 0;
    private static final int A_LOT = 1;
    private static final int SHORTS = 3;
    private static final int LONGS = 4;

    private static final int NO_SUCH = -1;
    private static final int NONE = -2;
    private static final int FULL = -2;
    private static final int NOT_NOW = -3;
    private static final int TOO_MANY = -5;
    private static final int NOTHING_HELD = -11;
    private static final int OTHER_KIND = -12;
    private static final int NO_PLACE = -13;
    private static final int SIZE_BELOW_ZERO = -14;
    private static final int NO_FAILURE = -15;

    // At one cent each buyer stops the hand once at most: then want, credit or stems have run out.
    private static final int MOST_STOPS = MOST_BUYERS * (TOP_CENTS + 1);

    private final Market market;
    private final Hand hand;
    private final Ledger ledger;
    private final Orders orders;
    private final Shelf[] shelves;
    private int crushed;

    public FlowerClock() {
        market = new Market();
        hand = new Hand(market.buyers);
        ledger = new Ledger();
        orders = new Orders(market);
        shelves = new Shelf[SHELVES];
        for (int i = 0; i < SHELVES; i++) {
            shelves[i] = new Shelf();
        }
    }

    // ---- growers, lots, buyers

    public int grower(int due) {
        if (!within(due, 0, TOP_DUE)) {
            return NO_SUCH;
        }
        if (market.growers >= MOST_GROWERS) {
            return FULL;
        }
        market.dues[market.growers] = due;
        market.growers++;
        return market.growers - 1;
    }

    public int lot(int told, int stems, int least, int extra) {
        int kind = told / 100;
        if (told < 0 || !extraFits(kind, extra) || told / 10 % 10 >= SORTS || !market.hasGrower(told % 10)) {
            return NO_SUCH;
        }
        if (!within(stems, 1, TOP_STEMS) || !within(least, 0, TOP_CENTS)) {
            return NO_SUCH;
        }
        if (market.lotCount >= MOST_LOTS) {
            return FULL;
        }
        market.lots[market.lotCount] = newLot(told, stems, least, extra);
        market.lotCount++;
        return market.lotCount - 1;
    }

    public int found(int lot, int quality) {
        Lot held = market.lotAt(lot);
        if (held == null || !within(quality, 0, TOP_MARK)) {
            return NO_SUCH;
        }
        if (held instanceof Marked marked) {
            int before = marked.found;
            marked.found = quality;
            return before;
        }
        return NOT_NOW;
    }

    public int buyer(int credit) {
        if (!within(credit, 0, TOP_CREDIT)) {
            return NO_SUCH;
        }
        Buyers buyers = market.buyers;
        if (buyers.count >= MOST_BUYERS) {
            return FULL;
        }
        buyers.credits[buyers.count] = credit;
        buyers.count++;
        return buyers.count - 1;
    }

    public int want(int buyer, int sort, int stems, int limit) {
        Buyers buyers = market.buyers;
        if (!buyers.has(buyer) || !isSort(sort) || !within(stems, 0, TOP_STEMS) || !within(limit, 0, TOP_CENTS)) {
            return NO_SUCH;
        }
        int cell = buyer * SORTS + sort;
        int before = buyers.wants[cell];
        buyers.wants[cell] = stems;
        buyers.limits[cell] = limit;
        return before;
    }

    public int credit(int buyer, int cents) {
        Buyers buyers = market.buyers;
        if (!buyers.has(buyer) || !within(cents, 0, TOP_CREDIT)) {
            return NO_SUCH;
        }
        int before = buyers.credits[buyer];
        buyers.credits[buyer] = cents;
        return before;
    }

    public int worth(int buyer, int lot) {
        Lot held = market.lotAt(lot);
        if (held == null || !market.buyers.has(buyer)) {
            return NO_SUCH;
        }
        return market.buyers.worthTo(buyer, held.sort, held.bonus(market.day));
    }

    public int look(int lot, int what) {
        Lot held = market.lotAt(lot);
        if (held == null) {
            return NO_SUCH;
        }
        switch (what) {
            case 0: return held.kindNumber();
            case 1: return held.grower;
            case 2: return held.sort;
            case 3: return held.left;
            case 4: return held.least;
            case 5: return held.markOrDay();
            case 6: return held.foundQuality();
            case 7: return held.offeredOn == market.day ? 1 : 0;
            case 8: return held.sold;
            default: return NO_SUCH;
        }
    }

    public int about(int buyer, int what) {
        Buyers buyers = market.buyers;
        if (!buyers.has(buyer) || !within(what, 0, 2 * SORTS + 1)) {
            return NO_SUCH;
        }
        if (what == 0) {
            return buyers.credits[buyer];
        }
        if (what == 1) {
            return buyers.bought[buyer];
        }
        int sort = (what - 2) % SORTS;
        int cell = buyer * SORTS + sort;
        return what - 2 < SORTS ? buyers.wants[cell] : buyers.limits[cell];
    }

    public long takings(int grower) throws IllegalArgumentException {
        if (!market.hasGrower(grower)) {
            throw new IllegalArgumentException("no such grower");
        }
        return ledger.takingsOf(grower, market);
    }

    // ---- sales

    public int sell(int lot) {
        Lot held = market.lotAt(lot);
        if (held == null) {
            return NO_SUCH;
        }
        return held.isOpen(market.day) ? sellLot(lot, held) : NOT_NOW;
    }

    public int round(int order) {
        if (!isOrder(order)) {
            return NO_SUCH;
        }
        int lots = orders.find(order);
        if (lots < 0) {
            return lots;
        }
        int sold = 0;
        for (int i = 0; i < lots; i++) {
            int number = orders.lotAtPlace(i);
            Lot held = market.lotAt(number);
            if (held != null) {
                sold += sellLot(number, held);
            }
        }
        return sold;
    }

    public int place(int order, int i) {
        if (!isOrder(order) || i < 0) {
            return NO_SUCH;
        }
        int lots = orders.find(order);
        if (lots < 0) {
            return lots;
        }
        return i < lots ? orders.lotAtPlace(i) : NOT_NOW;
    }

    public long would(int order) throws IllegalArgumentException, IllegalStateException {
        if (!isOrder(order)) {
            throw new IllegalArgumentException("no such order");
        }
        if (orders.find(order) < 0) {
            throw new IllegalStateException("too many lots for the best order");
        }
        return orders.wouldTake();
    }

    public int foretold(int sort) {
        if (!isSort(sort)) {
            return NO_SUCH;
        }
        return onePlainStemStops(sort) ? hand.price : NONE;
    }

    public int first(int sort) {
        if (!isSort(sort)) {
            return NO_SUCH;
        }
        return onePlainStemStops(sort) ? hand.seat : NONE;
    }

    public int close() {
        if (market.day >= LAST_DAY) {
            return NONE;
        }
        int gone = market.crushRests();
        crushed += gone;
        market.day++;
        Arrays.fill(market.buyers.bought, 0);
        return gone;
    }

    // ---- payments

    public int payment(int k, int what) {
        if (!ledger.has(k)) {
            return NO_SUCH;
        }
        switch (what) {
            case 0: return ledger.seats[k];
            case 1: return ledger.lots[k];
            case 2: return ledger.stems[k];
            case 3: return ledger.prices[k];
            case 4: return ledger.days[k];
            case 5: return ledger.claimed[k];
            default: return NO_SUCH;
        }
    }

    public int claim(int payment, int n) {
        if (!ledger.has(payment) || n < 1) {
            return NO_SUCH;
        }
        if (ledger.claimed[payment] > 0 || ledger.stems[payment] < n) {
            return NOT_NOW;
        }
        ledger.claimed[payment] = n;
        ledger.claims++;
        int back = n * ledger.prices[payment];
        market.buyers.refund(ledger.seats[payment], back);
        return back;
    }

    public int cart(int payment) {
        if (!ledger.has(payment)) {
            return NO_SUCH;
        }
        if (ledger.days[payment] != market.day) {
            return NOT_NOW;
        }
        return ledger.cartsAt(ledger.seats[payment] % DOCKS, market.day, payment + 1);
    }

    public int dock(int dock) {
        if (!within(dock, 0, DOCKS - 1)) {
            return NO_SUCH;
        }
        return ledger.cartsAt(dock, market.day, ledger.size);
    }

    public long bill(int buyer, int day) throws IllegalArgumentException {
        if (!market.buyers.has(buyer) || !within(day, 0, LAST_DAY)) {
            throw new IllegalArgumentException("no such buyer or day");
        }
        return ledger.paidBy(buyer, day);
    }

    public int count(int what) {
        switch (what) {
            case 0: return market.growers;
            case 1: return market.lotCount;
            case 2: return market.buyers.count;
            case 3: return market.day;
            case 4: return ledger.size;
            case 5: return crushed;
            case 6: return ledger.claims;
            case 7: return market.openLots();
            default: return NO_SUCH;
        }
    }

    public int keep(int d, int what, int k) {
        Shelf shelf = shelfAt(d);
        if (shelf == null) {
            return NO_SUCH;
        }
        switch (what) {
            case NOTHING: return shelf.holdNothing();
            case A_LOT: return keepLot(shelf, k);
            case SHORTS: return keepWants(shelf, k);
            case LONGS: return keepTakings(shelf);
            default: return NO_SUCH;
        }
    }

    public int make(int d, int what, int n) {
        Shelf shelf = shelfAt(d);
        if (shelf == null || (what != SHORTS && what != LONGS) || n > MOST_IN_ROW) {
            return NO_SUCH;
        }
        return n < 0 ? SIZE_BELOW_ZERO : shelf.holdRow(what, n);
    }

    public long element(int d, int i) throws IllegalArgumentException, IllegalStateException {
        Shelf shelf = shelfAt(d);
        if (shelf == null) {
            throw new IllegalArgumentException("no such shelf");
        }
        if (!shelf.holdsRow() || !within(i, 0, shelf.length - 1)) {
            throw new IllegalStateException("no row with such a place");
        }
        return shelf.held == SHORTS ? shelf.shorts[i] : shelf.longs[i];
    }

    public int copy(int d, int i, int e, int j, int n) {
        Shelf from = shelfAt(d);
        Shelf to = shelfAt(e);
        if (from == null || to == null) {
            return NO_SUCH;
        }
        if (from.held == NOTHING || to.held == NOTHING) {
            return NOTHING_HELD;
        }
        if (!from.holdsRow() || from.held != to.held) {
            return OTHER_KIND;
        }
        if (!from.hasPlaces(i, n) || !to.hasPlaces(j, n)) {
            return NO_PLACE;
        }
        to.takeFrom(from, i, j, n);
        return n;
    }

    public int weight(int d) {
        Shelf shelf = shelfAt(d);
        if (shelf == null) {
            return NO_SUCH;
        }
        Lot held = shelf.lot;
        return held == null ? shelf.whyNoLot() : held.heft();
    }

    public int toss(int d) {
        Shelf shelf = shelfAt(d);
        if (shelf == null) {
            return NO_SUCH;
        }
        Lot held = shelf.lot;
        if (held == null) {
            return shelf.whyNoLot();
        }
        try {
            held.fail();
        } catch (IllegalStateException failure) {
            return held.markOrDay();
        }
        return NO_FAILURE;
    }

    // ---- what the calls share

    private static boolean within(int value, int least, int most) {
        return value >= least && value <= most;
    }

    private static boolean isSort(int sort) {
        return within(sort, 0, SORTS - 1);
    }

    private static boolean isOrder(int order) {
        return within(order, BY_NUMBERS, TURNS);
    }

    private static boolean extraFits(int kind, int extra) {
        switch (kind) {
            case PLAIN: return true;
            case MARKED:
            case COOLED: return within(extra, 1, TOP_MARK);
            case FEAST: return within(extra, 0, LAST_DAY);
            default: return false;
        }
    }

    private static Lot newLot(int told, int stems, int least, int extra) {
        int grower = told % 10;
        int sort = told / 10 % 10;
        switch (told / 100) {
            case MARKED: return new Marked(grower, sort, stems, least, extra);
            case COOLED: return new Cooled(grower, sort, stems, least, extra);
            case FEAST: return new Feast(grower, sort, stems, least, extra);
            default: return new Lot(grower, sort, stems, least);
        }
    }

    private Shelf shelfAt(int d) {
        return within(d, 0, SHELVES - 1) ? shelves[d] : null;
    }

    private int sellLot(int number, Lot lot) {
        lot.offeredOn = market.day;
        hand.raise(lot.sort, lot.bonus(market.day), lot.least, lot.left);
        int before = lot.left;
        for (int stop = 0; stop < MOST_STOPS && ledger.hasRoom() && hand.stops(); stop++) {
            hand.handOver();
            ledger.enter(hand, number, lot.grower, market.day);
        }
        lot.left = hand.left;
        lot.sold += before - lot.left;
        return before - lot.left;
    }

    // The room for PAYMENTS is left aside: the question is who would buy, not who could still pay.
    private boolean onePlainStemStops(int sort) {
        hand.raise(sort, 0, 0, 1);
        return hand.stops();
    }

    private int keepLot(Shelf shelf, int k) {
        Lot held = market.lotAt(k);
        return held == null ? NO_SUCH : shelf.holdLot(held.twin());
    }

    private int keepWants(Shelf shelf, int k) {
        if (!market.buyers.has(k)) {
            return NO_SUCH;
        }
        shelf.holdRow(SHORTS, 2 * SORTS);
        for (int sort = 0; sort < SORTS; sort++) {
            shelf.shorts[sort] = (short) market.buyers.wants[k * SORTS + sort];
            shelf.shorts[SORTS + sort] = (short) market.buyers.limits[k * SORTS + sort];
        }
        return 0;
    }

    private int keepTakings(Shelf shelf) {
        shelf.holdRow(LONGS, market.growers);
        for (int grower = 0; grower < market.growers; grower++) {
            shelf.longs[grower] = ledger.takingsOf(grower, market);
        }
        return 0;
    }

    /** A LOT: a PLAIN one as it stands here, the other KINDS under it. */
    private static class Lot {
        final int grower;
        final int sort;
        final int least;
        int left;
        int sold;
        int offeredOn = -1;

        Lot(int grower, int sort, int stems, int least) {
            this.grower = grower;
            this.sort = sort;
            this.least = least;
            left = stems;
        }

        boolean isOpen(int day) {
            return left > 0 && offeredOn != day;
        }

        int kindNumber() {
            return PLAIN;
        }

        int markOrDay() {
            return NONE;
        }

        int foundQuality() {
            return NONE;
        }

        /** What this one is worth beside a BUYER's LIMIT. */
        int bonus(int day) {
            return 0;
        }

        boolean lastsOverNight() {
            return false;
        }

        int heft() {
            return 10 + left;
        }

        /** Throws the FAILURE of those that have a MARK. */
        void fail() {
        }

        Lot twin() {
            return new Lot(grower, sort, left, least);
        }
    }

    private static class Marked extends Lot {
        final int mark;
        int found = NONE;

        Marked(int grower, int sort, int stems, int least, int mark) {
            super(grower, sort, stems, least);
            this.mark = mark;
        }

        @Override
        int kindNumber() {
            return MARKED;
        }

        @Override
        int markOrDay() {
            return mark;
        }

        @Override
        int foundQuality() {
            return found;
        }

        @Override
        int bonus(int day) {
            return found == NONE || found >= mark ? 0 : -10 * (mark - found);
        }

        @Override
        int heft() {
            return super.heft() + 100 * mark;
        }

        @Override
        void fail() {
            throw new IllegalStateException("the mark is not kept");
        }

        @Override
        Lot twin() {
            Marked twin = new Marked(grower, sort, left, least, mark);
            twin.found = found;
            return twin;
        }
    }

    private static final class Cooled extends Marked {
        Cooled(int grower, int sort, int stems, int least, int mark) {
            super(grower, sort, stems, least, mark);
        }

        @Override
        int kindNumber() {
            return COOLED;
        }

        @Override
        int bonus(int day) {
            return super.bonus(day) + 3;
        }

        @Override
        boolean lastsOverNight() {
            return true;
        }

        @Override
        int heft() {
            return 2 * super.heft();
        }

        @Override
        Lot twin() {
            Cooled twin = new Cooled(grower, sort, left, least, mark);
            twin.found = found;
            return twin;
        }
    }

    private static final class Feast extends Lot {
        final int feastDay;

        Feast(int grower, int sort, int stems, int least, int feastDay) {
            super(grower, sort, stems, least);
            this.feastDay = feastDay;
        }

        @Override
        int kindNumber() {
            return FEAST;
        }

        @Override
        int markOrDay() {
            return feastDay;
        }

        @Override
        int bonus(int day) {
            return within(feastDay - day, 0, 2) ? 5 : 0;
        }

        @Override
        int heft() {
            return super.heft() + feastDay;
        }

        @Override
        Lot twin() {
            return new Feast(grower, sort, left, least, feastDay);
        }
    }

    /** The BUYERS by SEATS; WANTS and LIMITS stand at SEAT * SORTS + SORT. */
    private static final class Buyers {
        int count;
        final int[] credits = new int[MOST_BUYERS];
        final int[] bought = new int[MOST_BUYERS];
        final int[] wants = new int[MOST_BUYERS * SORTS];
        final int[] limits = new int[MOST_BUYERS * SORTS];

        boolean has(int seat) {
            return within(seat, 0, count - 1);
        }

        void become(Buyers other) {
            count = other.count;
            System.arraycopy(other.credits, 0, credits, 0, MOST_BUYERS);
            System.arraycopy(other.bought, 0, bought, 0, MOST_BUYERS);
            System.arraycopy(other.wants, 0, wants, 0, MOST_BUYERS * SORTS);
            System.arraycopy(other.limits, 0, limits, 0, MOST_BUYERS * SORTS);
        }

        int worthTo(int seat, int sort, int bonus) {
            return Math.max(0, Math.min(TOP_CENTS, limits[seat * SORTS + sort] + bonus));
        }

        int wantOf(int seat, int sort) {
            return wants[seat * SORTS + sort];
        }

        void pay(int seat, int sort, int stems, int price) {
            credits[seat] -= stems * price;
            wants[seat * SORTS + sort] -= stems;
            bought[seat] += stems;
        }

        void refund(int seat, int cents) {
            if (has(seat)) {
                credits[seat] += cents;
            }
        }
    }

    /** The hand of the clock in one SALE at a time; after a stop it shows price, seat and stems of it. */
    private static final class Hand {
        final Buyers buyers;
        // In one SALE no WORTH changes: each is found once, when the hand is raised.
        final int[] worths = new int[MOST_BUYERS];
        int sort;
        int least;
        int left;
        int price;
        int seat;
        int stems;

        Hand(Buyers buyers) {
            this.buyers = buyers;
        }

        void raise(int sort, int bonus, int least, int left) {
            this.sort = sort;
            this.least = least;
            this.left = left;
            price = TOP_CENTS;
            for (int i = 0; i < buyers.count; i++) {
                worths[i] = buyers.worthTo(i, sort, bonus);
            }
        }

        /** Falls to the next stop, if there is one above or at the least price. */
        boolean stops() {
            int stop = highestStop();
            int stopper = stopperAt(stop);
            if (left < 1 || stop < least || stopper < 0) {
                return false;
            }
            price = stop;
            seat = stopper;
            stems = Math.min(left, buyers.wantOf(seat, sort));
            if (price > 0) {
                stems = Math.min(stems, buyers.credits[seat] / price);
            }
            return true;
        }

        void handOver() {
            buyers.pay(seat, sort, stems, price);
            left -= stems;
        }

        /** The highest cent, from where the hand is down, at which somebody stops it; -1: nobody does. */
        private int highestStop() {
            int stop = -1;
            for (int i = 0; i < buyers.count; i++) {
                if (buyers.wantOf(i, sort) > 0) {
                    int most = Math.min(worths[i], buyers.credits[i]);
                    stop = Math.max(stop, Math.min(price, most));
                }
            }
            return stop;
        }

        /** Who stops the hand at a cent; -1: nobody does. Of wholly like ones the first SEAT stays. */
        private int stopperAt(int cents) {
            int chosen = -1;
            for (int i = 0; i < buyers.count; i++) {
                boolean can = worths[i] >= cents && buyers.credits[i] >= cents && buyers.wantOf(i, sort) > 0;
                if (can && (chosen < 0 || worths[i] > worths[chosen]
                        || (worths[i] == worths[chosen] && buyers.bought[i] < buyers.bought[chosen]))) {
                    chosen = i;
                }
            }
            return chosen;
        }
    }

    /** All that is there to be sold, and who buys it. */
    private static final class Market {
        int day;
        int growers;
        int lotCount;
        final int[] dues = new int[MOST_GROWERS];
        final Lot[] lots = new Lot[MOST_LOTS];
        final Buyers buyers = new Buyers();

        boolean hasGrower(int grower) {
            return within(grower, 0, growers - 1);
        }

        /** The LOT of a number; null: there is none. */
        Lot lotAt(int number) {
            return within(number, 0, lotCount - 1) ? lots[number] : null;
        }

        boolean isOpen(int number) {
            Lot lot = lotAt(number);
            return lot != null && lot.isOpen(day);
        }

        int openLots() {
            int open = 0;
            for (int number = 0; number < lotCount; number++) {
                open += isOpen(number) ? 1 : 0;
            }
            return open;
        }

        /** What is left to a GROWER of so many cents. */
        int lessDue(int grower, int cents) {
            return hasGrower(grower) ? cents - cents * dues[grower] / 100 : cents;
        }

        int crushRests() {
            int gone = 0;
            for (int number = 0; number < lotCount; number++) {
                Lot lot = lotAt(number);
                if (lot != null && lot.offeredOn == day && !lot.lastsOverNight()) {
                    gone += lot.left;
                    lot.left = 0;
                }
            }
            return gone;
        }
    }

    /** The PAYMENTS as they came, with their CLAIMS. */
    private static final class Ledger {
        int size;
        int claims;
        final int[] seats = new int[MOST_PAYMENTS];
        final int[] lots = new int[MOST_PAYMENTS];
        final int[] growers = new int[MOST_PAYMENTS];
        final int[] stems = new int[MOST_PAYMENTS];
        final int[] prices = new int[MOST_PAYMENTS];
        final int[] days = new int[MOST_PAYMENTS];
        final int[] claimed = new int[MOST_PAYMENTS];

        boolean has(int k) {
            return within(k, 0, size - 1);
        }

        boolean hasRoom() {
            return size < MOST_PAYMENTS;
        }

        void enter(Hand hand, int lot, int grower, int day) {
            if (!hasRoom()) {
                return;
            }
            seats[size] = hand.seat;
            lots[size] = lot;
            growers[size] = grower;
            stems[size] = hand.stems;
            prices[size] = hand.price;
            days[size] = day;
            size++;
        }

        long takingsOf(int grower, Market market) {
            long sum = 0;
            for (int k = 0; k < size; k++) {
                if (growers[k] == grower) {
                    sum += market.lessDue(grower, stems[k] * prices[k]);
                    sum -= market.lessDue(grower, claimed[k] * prices[k]);
                }
            }
            return sum;
        }

        long paidBy(int seat, int day) {
            long sum = 0;
            for (int k = 0; k < size; k++) {
                if (seats[k] == seat && days[k] == day) {
                    sum += (stems[k] - claimed[k]) * prices[k];
                }
            }
            return sum;
        }

        /** How many CARTS of a day's PAYMENTS below a number go to a DOCK. */
        int cartsAt(int dock, int day, int end) {
            int carts = 0;
            for (int k = 0; k < size && k < end; k++) {
                if (days[k] == day && seats[k] % DOCKS == dock) {
                    carts += (stems[k] + CART_STEMS - 1) / CART_STEMS;
                }
            }
            return carts;
        }
    }

    /** SALES that are thought of only: BUYERS of its own, and what GROWERS take of these SALES. */
    private static final class Trial {
        final Buyers buyers = new Buyers();
        final Hand hand = new Hand(buyers);
        final long[] takings = new long[MOST_GROWERS];

        void beginWith(Buyers real) {
            buyers.become(real);
            Arrays.fill(takings, 0L);
        }

        void become(Trial other) {
            buyers.become(other.buyers);
            System.arraycopy(other.takings, 0, takings, 0, MOST_GROWERS);
        }

        void sellIn(Market market, int number) {
            Lot lot = market.lotAt(number);
            if (lot == null || !market.hasGrower(lot.grower)) {
                return;
            }
            hand.raise(lot.sort, lot.bonus(market.day), lot.least, lot.left);
            for (int stop = 0; stop < MOST_STOPS && hand.stops(); stop++) {
                hand.handOver();
                takings[lot.grower] += market.lessDue(lot.grower, hand.stems * hand.price);
            }
        }

        long total() {
            long sum = 0;
            for (int grower = 0; grower < MOST_GROWERS; grower++) {
                sum += takings[grower];
            }
            return sum;
        }

        /** The least TAKINGS of those GROWERS who have a LOT in the order; -1: it has none. */
        long least(int[] lotsOf) {
            long least = -1;
            for (int grower = 0; grower < MOST_GROWERS; grower++) {
                if (lotsOf[grower] > 0 && (least < 0 || takings[grower] < least)) {
                    least = takings[grower];
                }
            }
            return least;
        }
    }

    /** Finds ORDERS; its rows are made once and used again for each. */
    private static final class Orders {
        final Market market;
        final Trial[] trials = new Trial[MOST_IN_BEST + 1];
        final int[] open = new int[MOST_LOTS];
        final int[] row = new int[MOST_LOTS];
        final int[] path = new int[MOST_IN_BEST];
        final boolean[] used = new boolean[MOST_LOTS];
        final int[] lotsOf = new int[MOST_GROWERS];
        final int[] turnsOf = new int[MOST_GROWERS];
        int size;
        long mostTotal;
        long mostLeast;

        Orders(Market market) {
            this.market = market;
            for (int i = 0; i <= MOST_IN_BEST; i++) {
                trials[i] = new Trial();
            }
        }

        /** Finds an ORDER: how many LOTS it has, or the refusal of BEST. */
        int find(int order) {
            gather();
            if (order == BEST && size > MOST_IN_BEST) {
                return TOO_MANY;
            }
            if (order == BEST) {
                findBest();
            } else if (order == TURNS) {
                findTurns();
            } else {
                System.arraycopy(open, 0, row, 0, MOST_LOTS);
            }
            return size;
        }

        int lotAtPlace(int i) {
            return within(i, 0, size - 1) ? row[i] : NO_SUCH;
        }

        /** What all GROWERS would take by the ORDER found last. */
        long wouldTake() {
            trials[0].beginWith(market.buyers);
            for (int i = 0; i < size; i++) {
                trials[0].sellIn(market, row[i]);
            }
            return trials[0].total();
        }

        private void gather() {
            size = 0;
            Arrays.fill(lotsOf, 0);
            for (int number = 0; number < MOST_LOTS; number++) {
                used[number] = false;
                if (market.isOpen(number)) {
                    open[size] = number;
                    size++;
                    lotsOf[growerOf(number)]++;
                }
            }
        }

        private int growerOf(int number) {
            Lot lot = market.lotAt(number);
            return lot == null ? 0 : lot.grower;
        }

        private void findTurns() {
            Arrays.fill(turnsOf, 0);
            for (int i = 0; i < size; i++) {
                int next = nextTurn();
                used[next] = true;
                row[i] = open[next];
                turnsOf[growerOf(open[next])]++;
            }
        }

        /** Where in the open LOTS the next turn's one stands. */
        private int nextTurn() {
            int chosen = 0;
            boolean any = false;
            for (int i = 0; i < size; i++) {
                if (!used[i] && (!any || turnsBefore(growerOf(open[i]), growerOf(open[chosen])))) {
                    chosen = i;
                    any = true;
                }
            }
            return chosen;
        }

        private boolean turnsBefore(int grower, int other) {
            return turnsOf[grower] < turnsOf[other] || (turnsOf[grower] == turnsOf[other] && grower < other);
        }

        // Paths come in rising order, so of like ones the first found stays. trials[i] stands ahead of
        // place i: a path is sold anew only from the place on where it differs from the one before.
        private void findBest() {
            mostTotal = -1;
            mostLeast = -1;
            System.arraycopy(open, 0, path, 0, MOST_IN_BEST);
            trials[0].beginWith(market.buyers);
            int changed = 0;
            for (int tried = 0; tried < MOST_PATHS && changed >= 0; tried++) {
                for (int i = changed; i < size && i < MOST_IN_BEST; i++) {
                    trials[i + 1].become(trials[i]);
                    trials[i + 1].sellIn(market, path[i]);
                }
                weighPath();
                changed = goToNextPath();
            }
        }

        private void weighPath() {
            Trial end = trials[Math.min(size, MOST_IN_BEST)];
            long total = end.total();
            long least = end.least(lotsOf);
            if (total > mostTotal || (total == mostTotal && least > mostLeast)) {
                mostTotal = total;
                mostLeast = least;
                System.arraycopy(path, 0, row, 0, MOST_IN_BEST);
            }
        }

        /** Makes of the path the next greater one of the same LOTS: the first place changed; -1: it is the last. */
        private int goToNextPath() {
            int last = Math.min(size, MOST_IN_BEST) - 1;
            int changed = last - 1;
            while (changed >= 0 && path[changed] > path[changed + 1]) {
                changed--;
            }
            if (changed < 0) {
                return -1;
            }
            int greater = last;
            while (greater > changed && path[greater] < path[changed]) {
                greater--;
            }
            swapInPath(changed, greater);
            for (int i = changed + 1, j = last; i < j; i++, j--) {
                swapInPath(i, j);
            }
            return changed;
        }

        private void swapInPath(int i, int j) {
            int held = path[i];
            path[i] = path[j];
            path[j] = held;
        }
    }

    /** Its rows are made once; length tells how much of the one that is held counts. */
    private static final class Shelf {
        int held = NOTHING;
        Lot lot;
        int length;
        final short[] shorts = new short[MOST_IN_ROW];
        final long[] longs = new long[MOST_IN_ROW];

        int holdNothing() {
            held = NOTHING;
            lot = null;
            length = 0;
            return 0;
        }

        int holdLot(Lot twin) {
            held = A_LOT;
            lot = twin;
            length = 0;
            return 0;
        }

        int holdRow(int kind, int n) {
            held = kind;
            lot = null;
            length = n;
            Arrays.fill(shorts, (short) 0);
            Arrays.fill(longs, 0L);
            return 0;
        }

        boolean holdsRow() {
            return held == SHORTS || held == LONGS;
        }

        int whyNoLot() {
            return held == NOTHING ? NOTHING_HELD : OTHER_KIND;
        }

        boolean hasPlaces(int i, int n) {
            return n >= 0 && i >= 0 && i <= length - n;
        }

        void takeFrom(Shelf other, int i, int j, int n) {
            if (held == SHORTS) {
                System.arraycopy(other.shorts, i, shorts, j, n);
            } else {
                System.arraycopy(other.longs, i, longs, j, n);
            }
        }
    }
}
