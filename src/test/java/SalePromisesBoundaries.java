/** Promises 12 to 18, sales: a method for each sentence. */
final class SalePromisesBoundaries {
    private static final int[] NO_ORDERS = {-1, 3, Clocks.MIN, Clocks.MAX};
    private static final int[] NO_SORTS = {-1, 6, Clocks.MIN, Clocks.MAX};

    private SalePromisesBoundaries() {
    }

    static void run() {
        promise12Sold();
        promise12OfferedOrNone();
        promise13Sold();
        promise13OrderIsFoundAheadOfTheFirst();
        promise13MoreThanSix();
        promise14Places();
        promise14NotSoMany();
        promise14MoreThanSix();
        promise15WhatGrowersWouldTake();
        promise15NothingIsSold();
        promise15AsIfThereWereRoom();
        promise15NoSuch();
        promise15MoreThanSix();
        promise16Price();
        promise16NoneWouldBuy();
        promise17Who();
        promise17NoneWouldBuy();
        promise18Crushed();
        promise18LastDay();
    }

    private static void promise12Sold() {
        Checks.holds(12, "A SALE: how many stems are sold.");
        FlowerClock clock = Clocks.of(1, 1000000, 600, 50, 1000000, 600, 40, 1000000, 1, 0);
        clock.lot(0, 1000, 0, 0);
        clock.lot(0, 1, 0, 0);
        clock.lot(0, 1000, 0, 0);
        clock.lot(0, 1000, 0, 0);
        Checks.same("all, to two", clock.sell(0), 1000);
        Checks.same("one", clock.sell(1), 1);
        Checks.same("what is wanted", clock.sell(2), 200);
        Checks.same("none", clock.sell(3), 0);
        Checks.holds(12, "-1");
        for (int lot : new int[] {-1, 4, 40, Clocks.MIN, Clocks.MAX}) {
            Checks.refused(clock, "sell(" + lot + ")", -1, () -> clock.sell(lot));
        }
    }

    private static void promise12OfferedOrNone() {
        Checks.holds(12, "-3: it was OFFERED on THE DAY, or has none.");
        FlowerClock clock = Clocks.of(1, 1000, 7, 50);
        clock.lot(0, 3, 0, 0);
        clock.lot(200, 5, 0, 1);
        clock.lot(200, 4, 0, 1);
        clock.lot(0, 4, 0, 1);
        clock.round(0);
        for (int lot = 0; lot < 4; lot++) {
            int of = lot;
            Checks.refused(clock, "OFFERED, by a round", -3, () -> clock.sell(of));
        }
        clock.close();
        Checks.refused(clock, "all sold", -3, () -> clock.sell(0));
        Checks.same("cooled, some left", clock.sell(1), 0);
        Checks.same("cooled, all left", clock.sell(2), 0);
        Checks.refused(clock, "crushed", -3, () -> clock.sell(3));
        FlowerClock cooled = Clocks.of(1, 1000, 7, 50);
        cooled.lot(200, 7, 0, 1);
        cooled.sell(0);
        cooled.close();
        Checks.refused(cooled, "cooled, all sold", -3, () -> cooled.sell(0));
    }

    private static void promise13Sold() {
        Checks.holds(13, "SALES of all LOTS by an ORDER");
        Checks.holds(13, "how many stems are sold.");
        for (int order = 0; order < 3; order++) {
            FlowerClock clock = Clocks.of(2, 1000, 8, 50);
            Checks.same("of no LOTS", clock.round(order), 0);
            clock.lot(0, 3, 0, 0);
            clock.lot(0, 5, 60, 0);
            clock.lot(1, 4, 0, 0);
            clock.lot(1, 4, 0, 0);
            clock.sell(0);
            Checks.same("of those that are open", clock.round(order), 5);
            Checks.same("all are OFFERED", clock.count(7), 0);
            Checks.same("one that nobody bought, too", clock.look(1, 7), 1);
            Checks.same("of none again", clock.round(order), 0);
        }
        FlowerClock all = Clocks.of(1, 0, 1000, 0, 0, 1000, 0);
        for (int lot = 0; lot < 40; lot++) {
            all.lot(0, 50, 0, 0);
        }
        Checks.same("of forty", all.round(0), 2000);
        Checks.holds(13, "-1");
        for (int order : NO_ORDERS) {
            Checks.refused(all, "round(" + order + ")", -1, () -> all.round(order));
        }
    }

    private static void promise13OrderIsFoundAheadOfTheFirst() {
        Checks.holds(13, "(found ahead of the first):");
        // BEST of all three is 1, 0, 2: once 1 is sold, 0 and 2 are alike; TURNS found anew would begin with 0 again.
        FlowerClock best = Clocks.of(2, 1000, 5, 60, 1000, 5, 20);
        best.lot(0, 5, 0, 0);
        best.lot(1, 5, 50, 0);
        best.lot(1, 5, 55, 0);
        Clocks.orderIs(best, 1, 1, 0, 2);
        Checks.same("round(1)", best.round(1), 10);
        Clocks.paymentIs(best, 0, 0, 1, 5, 60);
        Clocks.paymentIs(best, 1, 1, 0, 5, 20);
        FlowerClock turns = Clocks.of(2, 1000, 9, 60);
        turns.lot(0, 3, 0, 0);
        turns.lot(0, 3, 0, 0);
        turns.lot(1, 3, 0, 0);
        Checks.same("round(2)", turns.round(2), 9);
        int[] due = {0, 2, 1};
        for (int k = 0; k < 3; k++) {
            Checks.same("LOT of payment " + k, turns.payment(k, 1), due[k]);
        }
    }

    private static FlowerClock withLots(int lots) {
        FlowerClock clock = Clocks.of(2, 1000, 25, 40);
        for (int i = 0; i < lots; i++) {
            clock.lot(i % 2, 1, 0, 0);
        }
        return clock;
    }

    private static void promise13MoreThanSix() {
        Checks.holds(13, "-5: BEST of more than 6.");
        FlowerClock clock = withLots(7);
        Checks.refused(clock, "BEST of 7", -5, () -> clock.round(1));
        Checks.same("BEST of 6", withLots(6).round(1), 6);
        Checks.same("by numbers of 7", withLots(7).round(0), 7);
        Checks.same("TURNS of 7", withLots(7).round(2), 7);
        FlowerClock forty = withLots(40);
        Checks.refused(forty, "BEST of 40", -5, () -> forty.round(1));
    }

    private static void promise14Places() {
        Checks.holds(14, "The i-th LOT of an ORDER, from 0.");
        FlowerClock clock = Clocks.of(2, 1000, 5, 60, 1000, 5, 20);
        clock.lot(0, 5, 0, 0);
        clock.lot(0, 5, 55, 0);
        clock.lot(1, 5, 50, 0);
        Clocks.orderIs(clock, 0, 0, 1, 2);
        Clocks.orderIs(clock, 1, 2, 0, 1);
        Clocks.orderIs(clock, 2, 0, 2, 1);
        Checks.holds(14, "-1 (i below 0, too)");
        for (int order : NO_ORDERS) {
            Checks.refused(clock, "place(" + order + ", 0)", -1, () -> clock.place(order, 0));
        }
        for (int order = 0; order < 3; order++) {
            int of = order;
            Checks.refused(clock, "place(" + of + ", -1)", -1, () -> clock.place(of, -1));
            Checks.refused(clock, "place(" + of + ", MIN)", -1, () -> clock.place(of, Clocks.MIN));
        }
    }

    private static void promise14NotSoMany() {
        Checks.holds(14, "-3: there are not so many");
        FlowerClock clock = Clocks.of(1, 1000, 5, 60);
        for (int lots = 0; lots <= 6; lots++) {
            for (int order = 0; order < 3; order++) {
                int of = order;
                int behind = lots;
                Checks.refused(clock, "place(" + of + ", " + lots + ")", -3, () -> clock.place(of, behind));
                Checks.refused(clock, "place(" + of + ", MAX)", -3, () -> clock.place(of, Clocks.MAX));
            }
            clock.lot(0, 5, 0, 0);
            Checks.same("the last place", clock.place(0, lots), lots);
        }
        clock.sell(0);
        Checks.refused(clock, "one fewer", -3, () -> clock.place(0, 6));
        Checks.same("the last place", clock.place(0, 5), 6);
        FlowerClock forty = withLots(40);
        Checks.same("place(2, 39) of 40", forty.place(2, 39), 39);
        Checks.refused(forty, "place(2, 40) of 40", -3, () -> forty.place(2, 40));
    }

    private static void promise14MoreThanSix() {
        Checks.holds(14, "-5 (ahead of -3).");
        FlowerClock clock = withLots(7);
        for (int i : new int[] {0, 6, 7, Clocks.MAX}) {
            Checks.refused(clock, "place(1, " + i + ") of 7", -5, () -> clock.place(1, i));
        }
        Checks.refused(clock, "place(1, -1) of 7", -1, () -> clock.place(1, -1));
        Checks.refused(clock, "place(2, 7) of 7", -3, () -> clock.place(2, 7));
        clock.sell(0);
        Checks.same("place(1, 5) of 6", clock.place(1, 5), 6);
        Checks.refused(clock, "place(1, 6) of 6", -3, () -> clock.place(1, 6));
    }

    private static void promise15WhatGrowersWouldTake() {
        Checks.holds(15, "What all GROWERS would take by an ORDER");
        FlowerClock clock = new FlowerClock();
        clock.grower(10);
        clock.grower(50);
        clock.grower(100);
        clock.buyer(1000);
        clock.want(0, 0, 9, 3);
        for (int order = 0; order < 3; order++) {
            Checks.same("of no LOTS", clock.would(order), 0);
        }
        clock.lot(0, 1, 0, 0);
        clock.lot(1, 1, 0, 0);
        clock.lot(2, 5, 0, 0);
        for (int order = 0; order < 3; order++) {
            Checks.same("3 less 0, 3 less 1, 15 less 15", clock.would(order), 3 + 2);
        }
        clock.sell(0);
        Checks.same("without what was taken", clock.would(0), 2);
        FlowerClock two = Clocks.of(1, 105, 9, 60, 1000, 1, 60, 1000, 1, 59);
        two.lot(0, 4, 0, 0);
        two.lot(0, 9, 0, 0);
        Checks.same("the hand goes on in a LOT, CREDIT is less in the next", two.would(0), 60 + 60 + 59 + 45);
        // Seat 0 bought 1 on THE DAY, so seat 1 comes first, and has no CREDIT for the other SORT then.
        FlowerClock bought = Clocks.of(1, 1000, 9, 60, 60, 1, 60);
        bought.want(1, 1, 1, 50);
        bought.lot(0, 1, 0, 0);
        bought.sell(0);
        bought.lot(0, 1, 0, 0);
        bought.lot(10, 1, 50, 0);
        Checks.same("BOUGHT on THE DAY counts", bought.would(0), 60);
        bought.close();
        Checks.same("and on the DAY before not", bought.would(0), 60 + 50);
        FlowerClock most = Clocks.of(1);
        for (int buyer = 0; buyer < 12; buyer++) {
            most.buyer(1000000);
            most.want(buyer, 0, 1000, 99);
        }
        for (int lot = 0; lot < 40; lot++) {
            most.lot(0, 1000, 0, 0);
        }
        Checks.same("the most that can be", most.would(0), 12L * 99000);
    }

    private static void promise15NothingIsSold() {
        Checks.holds(15, "(nothing is sold;");
        FlowerClock clock = Clocks.of(2, 1000, 5, 60, 100, 5, 60);
        clock.lot(0, 5, 0, 0);
        clock.lot(1, 5, 20, 0);
        for (int order = 0; order < 3; order++) {
            int of = order;
            long due = clock.would(order);
            Checks.refused(clock, "would(" + of + ")", due, () -> clock.would(of));
        }
        long due = clock.would(1);
        clock.round(1);
        Checks.same("what was foreseen is taken", clock.takings(0) + clock.takings(1), due);
    }

    private static void promise15AsIfThereWereRoom() {
        Checks.holds(15, "as if there were room for all PAYMENTS).");
        FlowerClock clock = Clocks.withPayments(399);
        clock.lot(0, 9, 0, 0);
        clock.credit(0, 60);
        clock.credit(1, 50);
        clock.credit(2, 40);
        for (int order = 0; order < 3; order++) {
            Checks.same("would(" + order + ") beyond the room for one", clock.would(order), 60 + 50 + 40);
        }
        Checks.same("the SALE of one", clock.sell(17), 1);
        clock.lot(0, 9, 0, 0);
        Checks.same("without any room", clock.would(0), 50 + 40);
        Checks.same("the SALE of none", clock.sell(18), 0);
    }

    private static void promise15NoSuch() {
        Checks.holds(15, "IllegalArgumentException: no such");
        FlowerClock clock = withLots(7);
        for (int order : NO_ORDERS) {
            Checks.thrown(clock, "would(" + order + ")", IllegalArgumentException.class, () -> clock.would(order));
        }
    }

    private static void promise15MoreThanSix() {
        Checks.holds(15, "IllegalStateException: BEST of more than 6.");
        FlowerClock clock = withLots(7);
        Checks.thrown(clock, "would(1) of 7", IllegalStateException.class, () -> clock.would(1));
        Checks.same("would(0) of 7", clock.would(0), 280);
        Checks.same("would(2) of 7", clock.would(2), 280);
        clock.sell(0);
        Checks.same("would(1) of 6", clock.would(1), 240);
    }

    private static void promise16Price() {
        Checks.holds(16, "The price at which one stem of a SORT, PLAIN, of LEAST 0, would be sold now");
        FlowerClock clock = Clocks.of(1, 1000, 1, 99);
        Checks.refused(clock, "the most", 99, () -> clock.foretold(0));
        clock.want(0, 0, 1, 0);
        Checks.refused(clock, "a LIMIT of 0", 0, () -> clock.foretold(0));
        clock.want(0, 0, 1, 60);
        clock.credit(0, 60);
        Checks.same("CREDIT of the LIMIT", clock.foretold(0), 60);
        clock.credit(0, 59);
        Checks.same("CREDIT one below", clock.foretold(0), 59);
        clock.credit(0, 0);
        Checks.same("without CREDIT", clock.foretold(0), 0);
        clock.buyer(1000);
        clock.want(1, 0, 1, 58);
        Checks.same("by another then", clock.foretold(0), 58);
        clock.credit(0, 58);
        clock.lot(0, 1, 0, 0);
        Checks.same("no LOT is asked for, and none is taken", clock.foretold(0), 58);
        Checks.same("what was foretold is paid", clock.sell(0), 1);
        Clocks.paymentIs(clock, 0, 0, 0, 1, 58);
        Checks.holds(16, "-1");
        for (int sort : NO_SORTS) {
            Checks.refused(clock, "foretold(" + sort + ")", -1, () -> clock.foretold(sort));
        }
    }

    private static void promise16NoneWouldBuy() {
        Checks.holds(16, "-2: none would buy.");
        FlowerClock clock = Clocks.of(1);
        Checks.refused(clock, "without BUYERS", -2, () -> clock.foretold(0));
        clock.buyer(1000);
        clock.want(0, 0, 0, 99);
        clock.want(0, 1, 1, 0);
        Checks.refused(clock, "without WANTS of it", -2, () -> clock.foretold(0));
        Checks.same("with one of another SORT", clock.foretold(1), 0);
        clock.lot(10, 1, 0, 0);
        clock.sell(0);
        Checks.same("when it has been bought", clock.foretold(1), -2);
    }

    private static void promise17Who() {
        Checks.holds(17, "Who would buy that (its SEAT)");
        FlowerClock clock = Clocks.of(1, 1000, 2, 60, 1000, 2, 60, 59, 2, 99);
        Checks.refused(clock, "the least SEAT", 0, () -> clock.first(0));
        clock.lot(0, 1, 0, 0);
        clock.sell(0);
        Checks.refused(clock, "the fewest BOUGHT", 1, () -> clock.first(0));
        clock.credit(2, 60);
        Checks.refused(clock, "the greatest WORTH", 2, () -> clock.first(0));
        clock.credit(2, 0);
        clock.close();
        Checks.same("the least SEAT on the next DAY", clock.first(0), 0);
        clock.want(0, 0, 0, 60);
        clock.credit(1, 0);
        Checks.same("the greatest WORTH, at 0", clock.first(0), 2);
        FlowerClock last = Clocks.of(1);
        for (int buyer = 0; buyer < 12; buyer++) {
            last.buyer(10);
        }
        last.want(11, 5, 1, 0);
        Checks.same("the last SEAT", last.first(5), 11);
        Checks.holds(17, "-1");
        for (int sort : NO_SORTS) {
            Checks.refused(last, "first(" + sort + ")", -1, () -> last.first(sort));
        }
    }

    private static void promise17NoneWouldBuy() {
        Checks.holds(17, "-2");
        FlowerClock clock = Clocks.of(1);
        Checks.refused(clock, "without BUYERS", -2, () -> clock.first(0));
        clock.buyer(1000);
        clock.want(0, 1, 1, 0);
        Checks.refused(clock, "without WANTS of it", -2, () -> clock.first(0));
        Checks.refused(clock, "with one of it", 0, () -> clock.first(1));
    }

    private static void promise18Crushed() {
        Checks.holds(18, "THE DAY CLOSES: how many stems are CRUSHED.");
        FlowerClock clock = Clocks.of(1, 1000, 3, 50);
        Checks.same("without LOTS", clock.close(), 0);
        clock.lot(0, 1000, 0, 0);
        clock.lot(100, 1000, 0, 1);
        clock.lot(200, 1000, 0, 1);
        clock.lot(300, 1000, 0, 1);
        Checks.same("none was OFFERED", clock.close(), 0);
        clock.round(0);
        Checks.same("of three KINDS", clock.close(), 997 + 1000 + 1000);
        Checks.same("nothing is left to be CRUSHED", clock.close(), 0);
        Checks.same("CRUSHED in all", clock.count(5), 2997);
        FlowerClock all = Clocks.of(1);
        for (int lot = 0; lot < 40; lot++) {
            all.lot(0, 1000, 0, 0);
        }
        all.round(0);
        Checks.same("the most", all.close(), 40000);
    }

    private static void promise18LastDay() {
        Checks.holds(18, "-2: THE DAY is 1000.");
        FlowerClock clock = Clocks.of(1, 1000, 3, 50);
        clock.lot(0, 5, 0, 0);
        for (int day = 0; day < 999; day++) {
            clock.close();
        }
        Checks.same("close() on 999", clock.close(), 0);
        clock.sell(0);
        Checks.refused(clock, "close() on 1000", -2, () -> clock.close());
        Checks.same("nothing is CRUSHED", clock.look(0, 3), 2);
        Checks.same("BOUGHT stays", clock.about(0, 1), 3);
        Checks.same("bill of the last DAY", clock.bill(0, 1000), 150);
    }
}
