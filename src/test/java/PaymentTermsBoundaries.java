/** The edges that the terms name for PAYMENTS, CLAIMS, CARTS, SHELVES and refusals: a method for each sentence. */
final class PaymentTermsBoundaries {
    private PaymentTermsBoundaries() {
    }

    static void run() {
        paymentsAreNumbered();
        saleEndsWhereOneMoreThan400WouldCome();
        claimTellsBadStems();
        claimGivesThePriceBack();
        claimGoesAboveTheMostCredit();
        claimTakesFromTheGrower();
        oneClaimAPayment();
        cartsAreOfTheDay();
        cartsAreOfClaimsToo();
        cartsHoldForty();
        cartsGoToSeatModuloFour();
        docksTakeOneAMinute();
        dockWithoutPaymentsHasNone();
        shelvesAreEight();
        shelfHoldsLotAsItIsThen();
        shelfHoldsShortsOrLongs();
        refusalWhenNothingIsHeld();
        refusalOfAnotherKind();
        refusalOfAPlace();
        refusalOfASize();
        refusalOfAFailure();
        firstRefusalIsAnswered();
        refusedCallChangesNothing();
    }

    private static void paymentsAreNumbered() {
        Checks.holds(0, "PAYMENTS are numbered as they come");
        FlowerClock clock = Clocks.of(1, 1000, 3, 50, 1000, 3, 40);
        Checks.refused(clock, "payment(0, 0) of none", -1, () -> clock.payment(0, 0));
        clock.lot(0, 4, 0, 0);
        clock.lot(0, 4, 0, 0);
        clock.sell(1);
        clock.close();
        clock.sell(0);
        Clocks.paymentIs(clock, 0, 0, 1, 3, 50, 0);
        Clocks.paymentIs(clock, 1, 1, 1, 1, 40, 0);
        Clocks.paymentIs(clock, 2, 1, 0, 2, 40, 1);
        Checks.refused(clock, "payment(3, 0)", -1, () -> clock.payment(3, 0));
    }

    private static void saleEndsWhereOneMoreThan400WouldCome() {
        Checks.holds(0, "(400 at most: where one more would come the SALE ends there)");
        FlowerClock exact = Clocks.withPayments(398);
        exact.credit(0, 100);
        exact.lot(0, 9, 40, 0);
        exact.credit(1, 100);
        Checks.same("a SALE of the last two", exact.sell(17), 2);
        Checks.same("PAYMENTS", exact.count(4), 400);
        FlowerClock clock = Clocks.withPayments(399);
        clock.credit(0, 10);
        clock.credit(1, 9);
        clock.lot(0, 9, 0, 0);
        clock.lot(0, 9, 0, 0);
        Checks.same("a SALE of the last one", clock.sell(17), 1);
        Clocks.paymentIs(clock, 399, 0, 17, 1, 10, 0, 0);
        Checks.same("CREDIT of who would come next", clock.about(1, 0), 9);
        Checks.same("stems left", clock.look(17, 3), 8);
        Checks.same("stems sold", clock.look(17, 8), 1);
        Checks.same("OFFERED", clock.look(17, 7), 1);
        Checks.same("a SALE without room", clock.sell(18), 0);
        Checks.same("OFFERED", clock.look(18, 7), 1);
        Checks.same("BOUGHT", clock.about(1, 1), 34);
        Checks.same("close()", clock.close(), 8 + 9);
        Checks.same("the first PAYMENT stays", clock.payment(0, 3), 63);
        Checks.same("a CLAIM of the last one", clock.claim(399, 1), 10);
        Checks.same("a CLAIM makes no room", clock.sell(0), 0);
        Checks.same("PAYMENTS", clock.count(4), 400);
    }

    private static void claimTellsBadStems() {
        Checks.holds(0, "A CLAIM tells how many stems of one were bad");
        FlowerClock clock = Clocks.of(1, 1000000);
        clock.buyer(1000000);
        Clocks.buy(clock, 0, 5, 10);
        Clocks.buy(clock, 0, 5, 10);
        Clocks.buy(clock, 0, 5, 10);
        Checks.same("none told", clock.payment(0, 5), 0);
        Checks.same("one of five", clock.claim(0, 1), 10);
        Checks.same("all of five", clock.claim(1, 5), 50);
        Checks.refused(clock, "six of five", -3, () -> clock.claim(2, 6));
        Checks.refused(clock, "none of five", -1, () -> clock.claim(2, 0));
        Checks.same("told", clock.payment(0, 5), 1);
        Checks.same("told", clock.payment(1, 5), 5);
        Checks.same("told of none", clock.payment(2, 5), 0);
    }

    private static void claimGivesThePriceBack() {
        Checks.holds(0, "the BUYER's CREDIT is more by their price");
        FlowerClock clock = Clocks.of(1, 1000000, 1000, 99, 0, 5, 0);
        clock.lot(0, 1000, 99, 0);
        clock.lot(0, 5, 0, 0);
        clock.round(0);
        Checks.same("all that a PAYMENT can be", clock.claim(0, 1000), 99000);
        Checks.same("CREDIT", clock.about(0, 0), 1000000);
        Checks.same("of what was sold at 0", clock.claim(1, 5), 0);
        Checks.same("CREDIT", clock.about(1, 0), 0);
        Checks.same("it is a CLAIM all the same", clock.count(6), 2);
        Checks.refused(clock, "and the only one", -3, () -> clock.claim(1, 1));
        Checks.same("WANT isn't more", clock.about(0, 2), 0);
        Checks.same("BOUGHT isn't less", clock.about(0, 1), 1000);
    }

    private static void claimGoesAboveTheMostCredit() {
        Checks.holds(0, "(also above 1000000)");
        FlowerClock clock = Clocks.of(1, 1000000, 1000, 99);
        clock.lot(0, 1000, 0, 0);
        clock.sell(0);
        clock.credit(0, 1000000);
        Checks.same("claim", clock.claim(0, 1000), 99000);
        Checks.same("CREDIT", clock.about(0, 0), 1099000);
        clock.want(0, 0, 1000, 99);
        clock.lot(0, 1000, 0, 0);
        Checks.same("it buys with that", clock.sell(1), 1000);
        Checks.same("CREDIT", clock.about(0, 0), 1000000);
        Checks.refused(clock, "credit(0, 1000001)", -1, () -> clock.credit(0, 1000001));
    }

    private static void claimAtDue(int due, int cents, int stems, int claimed, int rest) {
        FlowerClock clock = new FlowerClock();
        clock.grower(due);
        clock.buyer(1000000);
        clock.want(0, 0, stems, cents);
        clock.lot(0, stems, 0, 0);
        clock.sell(0);
        clock.claim(0, claimed);
        Checks.same(claimed + " of " + stems + " at " + cents + ", DUE " + due, clock.takings(0), rest);
    }

    private static void claimTakesFromTheGrower() {
        Checks.holds(0, "the GROWER's TAKINGS less by that price less (hundredths of it by DUE, cut)");
        claimAtDue(0, 10, 5, 5, 0);
        claimAtDue(100, 10, 5, 2, 0);
        claimAtDue(33, 10, 5, 5, 0);
        // 2 less 1 is 1; of one stem nothing goes off, so 1 is taken back, and none is left for the other.
        claimAtDue(50, 1, 2, 1, 0);
        claimAtDue(50, 1, 3, 1, 1);
        claimAtDue(50, 1, 3, 2, 1);
        claimAtDue(99, 1, 100, 99, 0);
        claimAtDue(99, 1, 101, 2, 1);
    }

    private static void oneClaimAPayment() {
        Checks.holds(0, "one CLAIM a PAYMENT.");
        FlowerClock clock = Clocks.of(1, 1000);
        clock.buyer(1000);
        Clocks.buy(clock, 0, 5, 10);
        Clocks.buy(clock, 0, 5, 10);
        clock.claim(0, 1);
        Checks.refused(clock, "another of the same", -3, () -> clock.claim(0, 1));
        clock.close();
        Checks.refused(clock, "another on the next DAY", -3, () -> clock.claim(0, 4));
        Checks.same("one of the other", clock.claim(1, 5), 50);
        Checks.same("CLAIMS", clock.count(6), 2);
    }

    private static FlowerClock withSeats(int seats) {
        FlowerClock clock = Clocks.of(1);
        for (int seat = 0; seat < seats; seat++) {
            clock.buyer(1000000);
        }
        return clock;
    }

    private static void cartsAreOfTheDay() {
        Checks.holds(0, "CARTS: the stems of each PAYMENT of THE DAY");
        FlowerClock clock = withSeats(1);
        Clocks.buy(clock, 0, 100, 10);
        Checks.same("dock(0)", clock.dock(0), 3);
        clock.close();
        Checks.same("dock(0) on the next DAY", clock.dock(0), 0);
        Checks.refused(clock, "cart(0) on the next DAY", -3, () -> clock.cart(0));
        Clocks.buy(clock, 0, 1, 10);
        Checks.same("its minutes begin anew", clock.cart(1), 1);
        Checks.same("dock(0)", clock.dock(0), 1);
    }

    private static void cartsAreOfClaimsToo() {
        Checks.holds(0, "(of CLAIMS, too), as they come");
        FlowerClock clock = withSeats(1);
        Clocks.buy(clock, 0, 41, 10);
        Clocks.buy(clock, 0, 41, 10);
        clock.claim(0, 41);
        clock.claim(1, 1);
        Checks.same("cart(0)", clock.cart(0), 2);
        Checks.same("cart(1)", clock.cart(1), 4);
        Checks.same("dock(0)", clock.dock(0), 4);
    }

    private static void cartsHoldForty() {
        Checks.holds(0, "go in CARTS of 40 of their own (the last with what is left)");
        int[] stems = {1, 39, 40, 41, 79, 80, 81, 999, 1000};
        int[] carts = {1, 1, 1, 2, 2, 2, 3, 25, 25};
        FlowerClock all = withSeats(1);
        int sum = 0;
        for (int i = 0; i < stems.length; i++) {
            FlowerClock clock = withSeats(1);
            Clocks.buy(clock, 0, stems[i], 10);
            Checks.same("CARTS of " + stems[i], clock.dock(0), carts[i]);
            Checks.same("minute of the last of " + stems[i], clock.cart(0), carts[i]);
            Clocks.buy(all, 0, stems[i], 1);
            sum += carts[i];
            Checks.same("none of the room of the one before is used", all.dock(0), sum);
        }
    }

    private static void cartsGoToSeatModuloFour() {
        Checks.holds(0, "to DOCK SEAT modulo 4");
        FlowerClock clock = withSeats(12);
        for (int seat = 0; seat < 12; seat++) {
            Clocks.buy(clock, seat, 40 * seat + 1, 1);
        }
        int[] due = {1 + 5 + 9, 2 + 6 + 10, 3 + 7 + 11, 4 + 8 + 12};
        for (int dock = 0; dock < 4; dock++) {
            Checks.same("dock(" + dock + ")", clock.dock(dock), due[dock]);
            Checks.same("the last one there", clock.cart(8 + dock), due[dock]);
        }
        Checks.same("seat 3 is the first at dock 3", clock.cart(3), 4);
        Checks.same("seat 4 comes behind seat 0", clock.cart(4), 1 + 5);
    }

    private static void docksTakeOneAMinute() {
        Checks.holds(0, "each DOCK takes one a minute, from minute 1 on, in the order of PAYMENTS");
        FlowerClock clock = withSeats(5);
        Clocks.buy(clock, 4, 1, 1);
        Clocks.buy(clock, 1, 200, 1);
        Clocks.buy(clock, 0, 41, 1);
        Clocks.buy(clock, 4, 1, 1);
        Checks.same("minute 1", clock.cart(0), 1);
        Checks.same("of another DOCK", clock.cart(1), 5);
        Checks.same("by PAYMENTS, not by SEATS", clock.cart(2), 3);
        Checks.same("behind that", clock.cart(3), 4);
    }

    private static void dockWithoutPaymentsHasNone() {
        Checks.holds(0, "(one without PAYMENTS has none).");
        FlowerClock clock = withSeats(2);
        for (int dock = 0; dock < 4; dock++) {
            Checks.same("dock(" + dock + ") without any", clock.dock(dock), 0);
        }
        Clocks.buy(clock, 1, 1, 1);
        Checks.same("dock(0)", clock.dock(0), 0);
        Checks.same("dock(1)", clock.dock(1), 1);
        Checks.same("dock(3)", clock.dock(3), 0);
    }

    private static void shelvesAreEight() {
        Checks.holds(0, "SHELVES 0 .. 7 each hold nothing (at first)");
        FlowerClock clock = Clocks.of(1, 10, 5, 10);
        clock.lot(100, 5, 0, 2);
        for (int d = 0; d <= 7; d++) {
            int of = d;
            Checks.refused(clock, "weight", -11, () -> clock.weight(of));
            Checks.refused(clock, "toss", -11, () -> clock.toss(of));
            Checks.refused(clock, "copy", -11, () -> clock.copy(of, 0, of, 0, 0));
            Checks.thrown(clock, "element", IllegalStateException.class, () -> clock.element(of, 0));
            Checks.same("keep", clock.keep(d, 1, 0), 0);
        }
        for (int d : new int[] {-1, 8, Clocks.MIN, Clocks.MAX}) {
            Checks.refused(clock, "weight(" + d + ")", -1, () -> clock.weight(d));
            Checks.refused(clock, "toss(" + d + ")", -1, () -> clock.toss(d));
            Checks.refused(clock, "keep(" + d + ", 1, 0)", -1, () -> clock.keep(d, 1, 0));
            Checks.refused(clock, "make(" + d + ", 3, 1)", -1, () -> clock.make(d, 3, 1));
            Checks.refused(clock, "copy(" + d + ", ..)", -1, () -> clock.copy(d, 0, 0, 0, 0));
            Checks.thrown(clock, "element", IllegalArgumentException.class, () -> clock.element(d, 0));
        }
        Checks.same("each holds its own", clock.keep(3, 0, 0), 0);
        Checks.same("weight(3)", clock.weight(3), -11);
        Checks.same("weight(4)", clock.weight(4), 215);
    }

    private static void shelfHoldsLotAsItIsThen() {
        Checks.holds(0, "a LOT (as it is then)");
        FlowerClock clock = Clocks.of(1, 1000, 4, 10);
        clock.lot(0, 5, 0, 0);
        clock.keep(0, 1, 0);
        clock.sell(0);
        clock.keep(1, 1, 0);
        clock.close();
        clock.keep(2, 1, 0);
        Checks.same("ahead of the SALE", clock.weight(0), 15);
        Checks.same("behind the SALE", clock.weight(1), 11);
        Checks.same("when it is CRUSHED", clock.weight(2), 10);
    }

    private static void shelfHoldsShortsOrLongs() {
        Checks.holds(0, "a ROW of shorts or longs.");
        FlowerClock clock = Clocks.of(1, 1000000, 1000, 99);
        clock.keep(0, 3, 0);
        Checks.same("the greatest that a short is asked for", clock.element(0, 0), 1000);
        clock.lot(0, 1000, 0, 0);
        clock.sell(0);
        clock.keep(1, 4, 0);
        Checks.same("beyond a short", clock.element(1, 0), 99000);
        Checks.refused(clock, "they are of two kinds", -12, () -> clock.copy(1, 0, 0, 0, 1));
        clock.make(0, 4, 60);
        Checks.same("of one kind", clock.copy(1, 0, 0, 59, 1), 1);
        Checks.same("copied beyond a short", clock.element(0, 59), 99000);
    }

    /** Shelves: 0 nothing, 1 a lot, 2 three shorts, 3 three longs, 4 no shorts. */
    private static FlowerClock withShelves() {
        FlowerClock clock = Clocks.of(1, 1000, 4, 10);
        clock.lot(0, 5, 0, 0);
        clock.keep(1, 1, 0);
        clock.make(2, 3, 3);
        clock.make(3, 4, 3);
        clock.make(4, 3, 0);
        return clock;
    }

    private static void refusalWhenNothingIsHeld() {
        Checks.holds(0, "Their REFUSALS: -11 nothing is held where something is wanted");
        FlowerClock clock = withShelves();
        Checks.refused(clock, "weight(0)", -11, () -> clock.weight(0));
        Checks.refused(clock, "toss(0)", -11, () -> clock.toss(0));
        Checks.refused(clock, "copy from 0", -11, () -> clock.copy(0, 0, 2, 0, 1));
        Checks.refused(clock, "copy to 0", -11, () -> clock.copy(2, 0, 0, 0, 1));
        Checks.refused(clock, "a ROW of none is something", -12, () -> clock.weight(4));
        Checks.same("keep of nothing on nothing", clock.keep(0, 0, 0), 0);
        clock.keep(2, 0, 0);
        Checks.refused(clock, "nothing is held any more", -11, () -> clock.weight(2));
    }

    private static void refusalOfAnotherKind() {
        Checks.holds(0, "-12 it is of another kind");
        FlowerClock clock = withShelves();
        for (int row = 2; row <= 4; row++) {
            int of = row;
            Checks.refused(clock, "weight of a ROW", -12, () -> clock.weight(of));
            Checks.refused(clock, "toss of a ROW", -12, () -> clock.toss(of));
            Checks.refused(clock, "copy of a LOT to a ROW", -12, () -> clock.copy(1, 0, of, 0, 0));
            Checks.refused(clock, "copy of a ROW to a LOT", -12, () -> clock.copy(of, 0, 1, 0, 0));
        }
        Checks.refused(clock, "copy of no shorts to longs", -12, () -> clock.copy(4, 0, 3, 0, 0));
        Checks.refused(clock, "copy of a LOT to itself", -12, () -> clock.copy(1, 0, 1, 0, 0));
    }

    private static void refusalOfAPlace() {
        Checks.holds(0, "-13 a place that it doesn't have");
        FlowerClock clock = withShelves();
        Checks.refused(clock, "place 3 of 3", -13, () -> clock.copy(2, 3, 2, 0, 1));
        Checks.refused(clock, "place -1", -13, () -> clock.copy(2, -1, 2, 0, 1));
        Checks.refused(clock, "place 0 of none", -13, () -> clock.copy(4, 0, 2, 0, 1));
        Checks.refused(clock, "place 0 of none", -13, () -> clock.copy(2, 0, 4, 0, 1));
        Checks.same("place 2 of 3", clock.copy(2, 2, 2, 0, 1), 1);
    }

    private static void refusalOfASize() {
        Checks.holds(0, "-14 a size below 0");
        FlowerClock clock = withShelves();
        Checks.refused(clock, "-1 shorts", -14, () -> clock.make(2, 3, -1));
        Checks.refused(clock, "-1 longs", -14, () -> clock.make(0, 4, -1));
        Checks.refused(clock, "MIN longs", -14, () -> clock.make(1, 4, Clocks.MIN));
        Checks.same("0 longs", clock.make(1, 4, 0), 0);
    }

    private static void refusalOfAFailure() {
        Checks.holds(0, "-15 a FAILURE that is none.");
        FlowerClock clock = withShelves();
        clock.lot(300, 5, 0, 2);
        clock.lot(100, 5, 0, 2);
        Checks.refused(clock, "toss of a PLAIN one", -15, () -> clock.toss(1));
        clock.keep(1, 1, 1);
        Checks.refused(clock, "toss of a FEAST one", -15, () -> clock.toss(1));
        clock.keep(1, 1, 2);
        Checks.same("toss of a MARKED one", clock.toss(1), 2);
    }

    private static void firstRefusalIsAnswered() {
        Checks.holds(0, "Answers of several refusals are the first one here: "
            + "-1 no such thing, a number out of range, or not as told; -2, -3, -5, -11 to -15 as told.");
        FlowerClock clock = Clocks.of(10);
        for (int lot = 0; lot < 40; lot++) {
            clock.lot(0, 5, 0, 0);
        }
        for (int buyer = 0; buyer < 12; buyer++) {
            clock.buyer(1000);
        }
        clock.want(0, 0, 5, 10);
        clock.sell(0);
        clock.claim(0, 1);
        clock.keep(1, 1, 1);
        clock.make(2, 3, 3);
        clock.make(3, 4, 3);
        Checks.refused(clock, "-1 ahead of -2: grower", -1, () -> clock.grower(101));
        Checks.refused(clock, "-1 ahead of -2: lot", -1, () -> clock.lot(0, 1001, 0, 0));
        Checks.refused(clock, "-1 ahead of -2: lot", -1, () -> clock.lot(60, 5, 0, 0));
        Checks.refused(clock, "-1 ahead of -2: lot", -1, () -> clock.lot(0, 5, 100, 0));
        Checks.refused(clock, "-1 ahead of -2: lot", -1, () -> clock.lot(100, 5, 0, 0));
        Checks.refused(clock, "-1 ahead of -2: buyer", -1, () -> clock.buyer(-1));
        Checks.refused(clock, "-1 ahead of -3: found", -1, () -> clock.found(0, 4));
        Checks.refused(clock, "-1 ahead of -3: claim", -1, () -> clock.claim(0, 0));
        Checks.refused(clock, "-1 ahead of -3: place", -1, () -> clock.place(3, 99));
        Checks.refused(clock, "-1 ahead of -5: place", -1, () -> clock.place(1, -1));
        Checks.refused(clock, "-5 ahead of -3: place", -5, () -> clock.place(1, 99));
        Checks.refused(clock, "-1 ahead of -11: copy", -1, () -> clock.copy(0, 0, 8, 0, 0));
        Checks.refused(clock, "-1 ahead of -12: copy", -1, () -> clock.copy(-1, 0, 1, 0, 0));
        Checks.refused(clock, "-1 ahead of -13: copy", -1, () -> clock.copy(2, 9, 8, 0, 0));
        Checks.refused(clock, "-11 ahead of -12: copy", -11, () -> clock.copy(1, 0, 0, 0, 0));
        Checks.refused(clock, "-11 ahead of -13: copy", -11, () -> clock.copy(0, -1, 2, 0, 1));
        Checks.refused(clock, "-12 ahead of -13: copy", -12, () -> clock.copy(2, -1, 3, 0, 1));
        Checks.refused(clock, "-12 ahead of -13: copy", -12, () -> clock.copy(2, 0, 1, 0, -1));
        Checks.refused(clock, "-1 ahead of -14: make", -1, () -> clock.make(8, 3, -1));
        Checks.refused(clock, "-1 ahead of -14: make", -1, () -> clock.make(0, 2, -1));
        Checks.thrown(clock, "no such ahead of BEST of more than 6", IllegalArgumentException.class,
            () -> clock.would(3));
        Checks.thrown(clock, "no such ahead of no such place", IllegalArgumentException.class,
            () -> clock.element(8, -1));
    }

    private static void refusedCallChangesNothing() {
        Checks.holds(0, "A refused call changes nothing.");
        FlowerClock clock = Clocks.of(1, 1000, 4, 10);
        clock.lot(100, 5, 0, 2);
        clock.found(0, 1);
        clock.keep(0, 3, 0);
        // What the call could have changed ahead of the argument that is wrong stays as it was.
        Checks.refused(clock, "want of a right WANT and a wrong LIMIT", -1, () -> clock.want(0, 0, 9, 100));
        Checks.refused(clock, "want of a wrong WANT and a right LIMIT", -1, () -> clock.want(0, 0, 1001, 9));
        Checks.refused(clock, "lot of a wrong MARK", -1, () -> clock.lot(100, 5, 0, 4));
        Checks.refused(clock, "found of a wrong quality", -1, () -> clock.found(0, 4));
        Checks.refused(clock, "keep of no such LOT", -1, () -> clock.keep(0, 1, 1));
        Checks.refused(clock, "keep of no such BUYER", -1, () -> clock.keep(0, 3, 1));
        Checks.refused(clock, "keep of no such what", -1, () -> clock.keep(0, 2, 0));
        Checks.refused(clock, "make of too many", -1, () -> clock.make(0, 3, 61));
        Checks.refused(clock, "make of a size below 0", -14, () -> clock.make(0, 4, -1));
        Checks.refused(clock, "copy partly beyond the end", -13, () -> clock.copy(0, 0, 0, 6, 7));
        Checks.same("element(0, 0)", clock.element(0, 0), 4);
        clock.sell(0);
        Checks.refused(clock, "sell of what was OFFERED", -3, () -> clock.sell(0));
        Checks.refused(clock, "claim of too many", -3, () -> clock.claim(0, 5));
        Checks.same("its CLAIM can come then", clock.claim(0, 4), 0);
    }
}
