/** The edges that the terms name for ORDERS: a method for each sentence. */
final class OrdersBoundaries {
    private OrdersBoundaries() {
    }

    static void run() {
        ordersHaveOpenLots();
        orderZeroIsByNumbers();
        bestHasSixLotsAtMost();
        bestIsByTakings();
        bestIsOfTheseSalesAlone();
        bestIsAsIfThereWereRoom();
        bestTakesTheMost();
        bestThenByTheLeastTakings();
        bestThenTheLeastRow();
        turnsGoToWhoHadTheFewest();
        turnsGoToWhoHasOneLeft();
        turnsThenGoToTheLeastGrower();
        turnsTakeTheLeastLot();
    }

    private static void ordersHaveOpenLots() {
        Checks.holds(0, "ORDERS of all LOTS that have stems and weren't OFFERED on THE DAY");
        FlowerClock clock = Clocks.of(1, 1000, 3, 50);
        for (int order = 0; order < 3; order++) {
            Clocks.orderIs(clock, order);
            Checks.same("would(" + order + ") of none", clock.would(order), 0);
            Checks.same("round(" + order + ") of none", clock.round(order), 0);
        }
        clock.lot(0, 3, 0, 0);
        clock.lot(200, 3, 0, 1);
        clock.lot(0, 3, 0, 0);
        clock.sell(0);
        clock.sell(1);
        for (int order = 0; order < 3; order++) {
            Clocks.orderIs(clock, order, 2);
        }
        clock.close();
        for (int order = 0; order < 3; order++) {
            Clocks.orderIs(clock, order, 1, 2);
        }
        clock.lot(0, 3, 0, 0);
        Clocks.orderIs(clock, 0, 1, 2, 3);
    }

    private static void orderZeroIsByNumbers() {
        Checks.holds(0, "0 by numbers.");
        FlowerClock clock = Clocks.of(4, 1000, 3, 50);
        int[] all = new int[40];
        for (int i = 0; i < 40; i++) {
            clock.lot(3 - i % 4, 3, 0, 0);
            all[i] = i;
        }
        Clocks.orderIs(clock, 0, all);
    }

    private static void bestHasSixLotsAtMost() {
        Checks.holds(0, "1 BEST: of all orders (6 LOTS at most)");
        FlowerClock clock = Clocks.of(1, 1000, 9, 50);
        for (int i = 0; i < 6; i++) {
            clock.lot(0, 1, 0, 0);
        }
        Clocks.orderIs(clock, 1, 0, 1, 2, 3, 4, 5);
        Checks.same("would(1) of 6", clock.would(1), 300);
        clock.lot(200, 1, 0, 1);
        Checks.refused(clock, "place(1, 0) of 7", -5, () -> clock.place(1, 0));
        Checks.refused(clock, "round(1) of 7", -5, () -> clock.round(1));
        Checks.thrown(clock, "would(1) of 7", IllegalStateException.class, () -> clock.would(1));
        clock.sell(3);
        Clocks.orderIs(clock, 1, 0, 1, 2, 4, 5, 6);
        Checks.same("round(1) of 6", clock.round(1), 6);
    }

    private static void bestIsByTakings() {
        Checks.holds(0, "that by which GROWERS' TAKINGS");
        // The lot sold first gets 50, the other 49: at a DUE of 100 the first grower takes nothing of it.
        FlowerClock clock = new FlowerClock();
        clock.grower(100);
        clock.grower(0);
        clock.buyer(1000);
        clock.buyer(1000);
        clock.want(0, 0, 1, 50);
        clock.want(1, 0, 1, 49);
        clock.lot(0, 1, 0, 0);
        clock.lot(1, 1, 0, 0);
        Clocks.orderIs(clock, 1, 1, 0);
        Checks.same("would(1)", clock.would(1), 50);
        Checks.same("would(0)", clock.would(0), 49);
    }

    private static void bestIsOfTheseSalesAlone() {
        Checks.holds(0, "(of these SALES alone");
        // Grower 0 took 500 already; of these SALES the totals are like, and the least decides.
        FlowerClock clock = Clocks.of(2, 1000, 10, 50);
        clock.lot(0, 10, 50, 0);
        clock.sell(0);
        clock.want(0, 0, 10, 50);
        clock.lot(1, 10, 50, 0);
        clock.lot(0, 4, 50, 0);
        Checks.same("would(0)", clock.would(0), 500);
        Clocks.orderIs(clock, 1, 2, 1);
    }

    private static void bestIsAsIfThereWereRoom() {
        Checks.holds(0, "as if there were room for all PAYMENTS)");
        FlowerClock clock = Clocks.withPayments(400);
        clock.lot(0, 2, 20, 0);
        clock.lot(0, 2, 40, 0);
        clock.want(0, 0, 2, 50);
        clock.want(1, 0, 2, 20);
        clock.credit(0, 1000);
        clock.credit(1, 1000);
        Checks.same("would(0) without room", clock.would(0), 2 * 50);
        Checks.same("would(1) without room", clock.would(1), 2 * 50 + 2 * 20);
        Clocks.orderIs(clock, 1, 18, 17);
        Checks.same("round(1) without room", clock.round(1), 0);
        Checks.same("PAYMENTS", clock.count(4), 400);
    }

    private static void bestTakesTheMost() {
        Checks.holds(0, "come to the most");
        FlowerClock clock = Clocks.of(1, 99, 1, 60, 99, 1, 50, 99, 1, 40, 99, 1, 30, 99, 1, 20, 99, 1, 10);
        for (int i = 1; i <= 6; i++) {
            clock.lot(0, 1, 10 * i, 0);
        }
        Clocks.orderIs(clock, 1, 5, 4, 3, 2, 1, 0);
        Checks.same("the last row of all takes the most", clock.would(1), 210);
        Checks.same("by numbers", clock.would(0), 60 + 50 + 40);
        FlowerClock middle = Clocks.of(1, 99, 1, 60, 99, 1, 50, 99, 1, 40);
        middle.lot(0, 1, 40, 0);
        middle.lot(0, 1, 60, 0);
        middle.lot(0, 1, 50, 0);
        Clocks.orderIs(middle, 1, 1, 2, 0);
        // Of fewer LOTS the most is less than it was, and is found anew.
        middle.sell(1);
        Clocks.orderIs(middle, 1, 2, 0);
        // One cent more decides, though the least TAKINGS are less by it.
        FlowerClock cent = Clocks.of(2, 1000, 2, 51, 1000, 1, 50);
        cent.lot(0, 2, 51, 0);
        cent.lot(1, 1, 50, 0);
        Clocks.orderIs(cent, 1, 0, 1);
        Checks.same("would(1)", cent.would(1), 152);
    }

    private static void bestThenByTheLeastTakings() {
        Checks.holds(0, "of these by which the least such TAKINGS of those GROWERS who have one of these LOTS "
            + "are greatest");
        // All at 50, ten wanted: who comes last gets what is left.
        FlowerClock clock = Clocks.of(3, 500, 10, 50);
        clock.lot(0, 8, 50, 0);
        clock.lot(1, 7, 50, 0);
        Clocks.orderIs(clock, 1, 1, 0);
        // Grower 2 has no LOT: its nothing isn't the least. Grower 0 has one that takes nothing by any order.
        FlowerClock nothing = Clocks.of(3, 500, 10, 50);
        nothing.lot(0, 1, 60, 0);
        nothing.lot(1, 8, 50, 0);
        nothing.lot(2, 7, 50, 0);
        Clocks.orderIs(nothing, 1, 0, 1, 2);
        // One whose LOT was OFFERED ahead has none of these.
        FlowerClock ahead = Clocks.of(3, 500, 10, 50);
        ahead.lot(0, 1, 60, 0);
        ahead.lot(1, 8, 50, 0);
        ahead.lot(2, 7, 50, 0);
        Clocks.orderIs(ahead, 1, 0, 1, 2);
        ahead.sell(0);
        Clocks.orderIs(ahead, 1, 2, 1);
        // Several LOTS of one GROWER count together.
        FlowerClock several = Clocks.of(2, 500, 10, 50);
        several.lot(0, 2, 50, 0);
        several.lot(0, 3, 50, 0);
        several.lot(1, 9, 50, 0);
        Clocks.orderIs(several, 1, 0, 1, 2);
    }

    private static void bestThenTheLeastRow() {
        Checks.holds(0, "of these the least as a row.");
        FlowerClock clock = Clocks.of(2, 500, 10, 50);
        for (int i = 0; i < 6; i++) {
            clock.lot(1 - i % 2, 1, 0, 0);
        }
        Clocks.orderIs(clock, 1, 0, 1, 2, 3, 4, 5);
        // What must come first is the third; the others follow by numbers.
        FlowerClock third = Clocks.of(1, 99, 1, 60, 1000, 9, 10);
        third.lot(0, 1, 0, 0);
        third.lot(0, 1, 0, 0);
        third.lot(0, 1, 60, 0);
        third.lot(0, 1, 0, 0);
        Clocks.orderIs(third, 1, 2, 0, 1, 3);
        // All that nobody buys: like orders of nothing.
        FlowerClock nothing = Clocks.of(3);
        nothing.lot(2, 1, 0, 0);
        nothing.lot(1, 1, 0, 0);
        nothing.lot(0, 1, 0, 0);
        Clocks.orderIs(nothing, 1, 0, 1, 2);
    }

    private static void turnsGoToWhoHadTheFewest() {
        Checks.holds(0, "2 TURNS: again and again the GROWER who had the fewest LOTS so far in this order");
        FlowerClock clock = Clocks.of(3);
        int[] growers = {0, 0, 0, 1, 1, 2};
        for (int grower : growers) {
            clock.lot(grower, 1, 0, 0);
        }
        Clocks.orderIs(clock, 2, 0, 3, 5, 1, 4, 2);
        // LOTS of an order before, and of other DAYS, don't count.
        clock.sell(0);
        Clocks.orderIs(clock, 2, 1, 3, 5, 2, 4);
        clock.close();
        Clocks.orderIs(clock, 2, 1, 3, 5, 2, 4);
    }

    private static void turnsGoToWhoHasOneLeft() {
        Checks.holds(0, "of those who have one left");
        FlowerClock clock = Clocks.of(10);
        clock.lot(9, 1, 0, 0);
        clock.lot(9, 1, 0, 0);
        clock.lot(9, 1, 0, 0);
        clock.lot(4, 1, 0, 0);
        Clocks.orderIs(clock, 2, 3, 0, 1, 2);
        FlowerClock many = Clocks.of(2);
        int[] due = new int[40];
        for (int i = 0; i < 40; i++) {
            many.lot(i < 39 ? 0 : 1, 1, 0, 0);
            due[i] = i == 0 ? 0 : i == 1 ? 39 : i - 1;
        }
        Clocks.orderIs(many, 2, due);
    }

    private static void turnsThenGoToTheLeastGrower() {
        Checks.holds(0, "of these the least:");
        FlowerClock clock = Clocks.of(10);
        int[] due = new int[20];
        for (int i = 0; i < 20; i++) {
            clock.lot(9 - i % 10, 1, 0, 0);
            due[i] = i < 10 ? 9 - i : 29 - i;
        }
        Clocks.orderIs(clock, 2, due);
    }

    private static void turnsTakeTheLeastLot() {
        Checks.holds(0, "the least of its LOTS that are left.");
        FlowerClock clock = Clocks.of(2);
        clock.lot(1, 1, 0, 0);
        clock.lot(0, 900, 0, 0);
        clock.lot(1, 900, 99, 0);
        clock.lot(0, 1, 99, 0);
        Clocks.orderIs(clock, 2, 1, 0, 3, 2);
        clock.sell(1);
        Clocks.orderIs(clock, 2, 3, 0, 2);
        FlowerClock one = Clocks.of(1);
        one.lot(0, 5, 0, 0);
        one.lot(0, 4, 0, 0);
        one.lot(0, 3, 0, 0);
        Clocks.orderIs(one, 2, 0, 1, 2);
    }
}
