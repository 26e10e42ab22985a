/** Promises 19 to 24, payments, claims, carts, bills, counts: a method for each sentence. */
final class PaymentPromisesBoundaries {
    private static final int[] FAR = {Clocks.MIN, Clocks.MAX};

    private PaymentPromisesBoundaries() {
    }

    static void run() {
        promise19OfAPayment();
        promise19ClaimedStems();
        promise20CentsBack();
        promise20HasOneOrFewerStems();
        promise21LastCart();
        promise21NotOfTheDay();
        promise22Carts();
        promise23PaidOnADay();
        promise23ClaimsTakenOff();
        promise23NoSuch();
        promise24Counts();
        promise24Others();
    }

    private static FlowerClock withBuyers(int buyers) {
        FlowerClock clock = Clocks.of(1);
        for (int buyer = 0; buyer < buyers; buyer++) {
            clock.buyer(1000000);
        }
        return clock;
    }

    private static void promise19OfAPayment() {
        Checks.holds(19, "Of a PAYMENT: 0 BUYER, 1 LOT, 2 stems, 3 the cents of a stem, 4 DAY");
        FlowerClock clock = withBuyers(12);
        Clocks.buy(clock, 11, 1000, 99);
        clock.close();
        clock.close();
        Clocks.buy(clock, 0, 1, 0);
        Clocks.paymentIs(clock, 0, 11, 0, 1000, 99, 0);
        Clocks.paymentIs(clock, 1, 0, 1, 1, 0, 2);
        Checks.holds(19, "-1");
        int[][] wrong = {{-1, 0}, {2, 0}, {400, 0}, {0, -1}, {0, 6}, {FAR[0], 0}, {FAR[1], 0}, {0, FAR[0]},
            {0, FAR[1]}};
        for (int[] call : wrong) {
            Checks.refused(clock, "payment(" + call[0] + ", " + call[1] + ")", -1,
                () -> clock.payment(call[0], call[1]));
        }
        FlowerClock full = Clocks.withPayments(400);
        Checks.same("the last one of all", full.payment(399, 2), 1);
        Checks.refused(full, "payment(400, 0)", -1, () -> full.payment(400, 0));
    }

    private static void promise19ClaimedStems() {
        Checks.holds(19, "5 stems of its CLAIM (0: none).");
        FlowerClock clock = withBuyers(1);
        Clocks.buy(clock, 0, 9, 10);
        Clocks.buy(clock, 0, 9, 10);
        Checks.same("none", clock.payment(0, 5), 0);
        clock.claim(0, 9);
        clock.claim(1, 1);
        Checks.same("all", clock.payment(0, 5), 9);
        Checks.same("one", clock.payment(1, 5), 1);
        Checks.same("stems stay", clock.payment(0, 2), 9);
        Checks.refused(clock, "another", -3, () -> clock.claim(1, 8));
    }

    private static void promise20CentsBack() {
        Checks.holds(20, "A CLAIM of n stems (1 or more): the cents that go back.");
        FlowerClock clock = withBuyers(1);
        Clocks.buy(clock, 0, 1000, 99);
        Clocks.buy(clock, 0, 1, 1);
        Clocks.buy(clock, 0, 5, 0);
        Checks.same("one of one, at 1", clock.claim(1, 1), 1);
        Checks.same("five, at 0", clock.claim(2, 5), 0);
        Checks.same("a thousand, at 99", clock.claim(0, 1000), 99000);
        Checks.same("TAKINGS", clock.takings(0), 0);
        Checks.holds(20, "-1");
        int[][] wrong = {{-1, 1}, {3, 1}, {400, 1}, {FAR[0], 1}, {FAR[1], 1}, {0, 0}, {0, -1}, {0, FAR[0]}, {3, 0}};
        for (int[] call : wrong) {
            Checks.refused(clock, "claim(" + call[0] + ", " + call[1] + ")", -1, () -> clock.claim(call[0], call[1]));
        }
    }

    private static void promise20HasOneOrFewerStems() {
        Checks.holds(20, "-3: it has one, or fewer stems.");
        FlowerClock clock = withBuyers(1);
        Clocks.buy(clock, 0, 5, 10);
        Clocks.buy(clock, 0, 5, 10);
        Checks.refused(clock, "one more than it has", -3, () -> clock.claim(0, 6));
        Checks.refused(clock, "MAX", -3, () -> clock.claim(0, Clocks.MAX));
        // 429496730 * 10 wraps around to 4.
        Checks.refused(clock, "so many that the price wraps around", -3, () -> clock.claim(0, 429496730));
        Checks.same("as many as it has", clock.claim(0, 5), 50);
        Checks.same("fewer than it has", clock.claim(1, 1), 10);
        Checks.refused(clock, "it has one", -3, () -> clock.claim(0, 1));
        Checks.refused(clock, "it has one, and some stems more", -3, () -> clock.claim(1, 4));
        Checks.refused(clock, "it has one, but n is below 1", -1, () -> clock.claim(1, 0));
    }

    private static void promise21LastCart() {
        Checks.holds(21, "The minute in which the last CART of a PAYMENT of THE DAY is at its DOCK.");
        FlowerClock clock = withBuyers(12);
        int[][] seatStems = {{3, 1}, {7, 40}, {11, 41}, {0, 1000}, {3, 80}, {4, 81}};
        int[] due = {1, 2, 4, 25, 6, 28};
        for (int k = 0; k < due.length; k++) {
            Clocks.buy(clock, seatStems[k][0], seatStems[k][1], 1);
        }
        for (int k = 0; k < due.length; k++) {
            Checks.same("cart(" + k + ")", clock.cart(k), due[k]);
        }
        Checks.holds(21, "-1");
        for (int payment : new int[] {-1, 6, 400, Clocks.MIN, Clocks.MAX}) {
            Checks.refused(clock, "cart(" + payment + ")", -1, () -> clock.cart(payment));
        }
        FlowerClock full = Clocks.withPayments(400);
        Checks.same("the last PAYMENT of all", full.cart(399), full.dock(full.payment(399, 0) % 4));
        Checks.same("one stem each, three SEATS at a DOCK", full.dock(3), 16 * 6 + 4);
    }

    private static void promise21NotOfTheDay() {
        Checks.holds(21, "-3: it isn't of THE DAY.");
        FlowerClock clock = withBuyers(1);
        Clocks.buy(clock, 0, 5, 10);
        Checks.same("of THE DAY", clock.cart(0), 1);
        clock.close();
        Checks.refused(clock, "of the DAY before", -3, () -> clock.cart(0));
        Clocks.buy(clock, 0, 5, 10);
        Checks.refused(clock, "of the DAY before still", -3, () -> clock.cart(0));
        Checks.same("of THE DAY", clock.cart(1), 1);
        Checks.refused(clock, "no such", -1, () -> clock.cart(2));
    }

    private static void promise22Carts() {
        Checks.holds(22, "How many CARTS a DOCK (0 .. 3) takes on THE DAY.");
        FlowerClock clock = withBuyers(12);
        Checks.same("without PAYMENTS", clock.dock(0), 0);
        Clocks.buy(clock, 0, 40, 1);
        Clocks.buy(clock, 3, 1, 1);
        Clocks.buy(clock, 11, 121, 1);
        int[] due = {1, 0, 0, 5};
        for (int dock = 0; dock < 4; dock++) {
            Checks.same("dock(" + dock + ")", clock.dock(dock), due[dock]);
        }
        clock.close();
        Checks.same("dock(3) on the next DAY", clock.dock(3), 0);
        Checks.holds(22, "-1");
        for (int dock : new int[] {-1, 4, Clocks.MIN, Clocks.MAX}) {
            Checks.refused(clock, "dock(" + dock + ")", -1, () -> clock.dock(dock));
        }
    }

    private static void promise23PaidOnADay() {
        Checks.holds(23, "What a BUYER paid on a DAY");
        FlowerClock clock = withBuyers(2);
        Checks.same("nothing yet", clock.bill(0, 0), 0);
        Clocks.buy(clock, 0, 1000, 99);
        Clocks.buy(clock, 0, 1000, 99);
        Clocks.buy(clock, 1, 3, 7);
        clock.close();
        Clocks.buy(clock, 0, 2, 5);
        Checks.same("of several PAYMENTS, beyond a short", clock.bill(0, 0), 198000);
        Checks.same("of the other", clock.bill(1, 0), 21);
        Checks.same("of the next DAY", clock.bill(0, 1), 10);
        Checks.same("of the other, on the next DAY", clock.bill(1, 1), 0);
        Checks.same("of a DAY to come", clock.bill(0, 2), 0);
        Checks.same("of the last DAY", clock.bill(0, 1000), 0);
    }

    private static void promise23ClaimsTakenOff() {
        Checks.holds(23, "CLAIMS of that (whenever told) taken off.");
        FlowerClock clock = withBuyers(1);
        Clocks.buy(clock, 0, 10, 10);
        Clocks.buy(clock, 0, 10, 20);
        clock.claim(0, 10);
        Checks.same("told on THE DAY, all of a PAYMENT", clock.bill(0, 0), 200);
        clock.close();
        Clocks.buy(clock, 0, 10, 30);
        clock.claim(1, 1);
        Checks.same("told on the next DAY", clock.bill(0, 0), 180);
        Checks.same("not of the DAY on which it is told", clock.bill(0, 1), 300);
        clock.claim(2, 10);
        Checks.same("all that was paid", clock.bill(0, 1), 0);
    }

    private static void promise23NoSuch() {
        Checks.holds(23, "IllegalArgumentException: no such BUYER, DAY (0 .. 1000).");
        FlowerClock clock = withBuyers(2);
        int[][] wrong = {{-1, 0}, {2, 0}, {12, 0}, {0, -1}, {0, 1001}, {FAR[0], 0}, {FAR[1], 0}, {0, FAR[0]},
            {0, FAR[1]}, {2, 1001}};
        for (int[] call : wrong) {
            Checks.thrown(clock, "bill(" + call[0] + ", " + call[1] + ")", IllegalArgumentException.class,
                () -> clock.bill(call[0], call[1]));
        }
        Checks.same("DAY 0", clock.bill(1, 0), 0);
        Checks.same("DAY 1000", clock.bill(1, 1000), 0);
    }

    private static void countIs(FlowerClock clock, int... due) {
        for (int what = 0; what < due.length; what++) {
            Checks.same("count(" + what + ")", clock.count(what), due[what]);
        }
    }

    private static void promise24Counts() {
        Checks.holds(24, "0 GROWERS, 1 LOTS, 2 BUYERS, 3 THE DAY, 4 PAYMENTS, 5 stems CRUSHED in all, 6 CLAIMS, "
            + "7 LOTS that an ORDER has now");
        FlowerClock clock = new FlowerClock();
        countIs(clock, 0, 0, 0, 0, 0, 0, 0, 0);
        for (int i = 0; i < 11; i++) {
            clock.grower(0);
        }
        for (int i = 0; i < 41; i++) {
            clock.lot(0, 5, 0, 0);
        }
        for (int i = 0; i < 13; i++) {
            clock.buyer(1000);
        }
        countIs(clock, 10, 40, 12, 0, 0, 0, 0, 40);
        clock.want(0, 0, 7, 10);
        clock.sell(0);
        clock.sell(1);
        clock.sell(2);
        countIs(clock, 10, 40, 12, 0, 2, 0, 0, 37);
        clock.claim(0, 1);
        clock.close();
        countIs(clock, 10, 40, 12, 1, 2, 3 + 5, 1, 37);
        clock.claim(1, 2);
        clock.sell(3);
        clock.close();
        countIs(clock, 10, 40, 12, 2, 2, 13, 2, 36);
    }

    private static void promise24Others() {
        Checks.holds(24, "-1 for others.");
        FlowerClock clock = withBuyers(2);
        for (int what : new int[] {-1, 8, Clocks.MIN, Clocks.MAX}) {
            Checks.refused(clock, "count(" + what + ")", -1, () -> clock.count(what));
        }
    }
}
