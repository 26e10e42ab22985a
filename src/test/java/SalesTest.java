/** Promises 12 to 18. */
public final class SalesTest {
    public static void main(String[] args) {
        promise12TiesByBoughtThenSeat();
        promise12BoughtInThisSaleCounts();
        promise12CreditRunsOutAndComesAgainLower();
        promise12DownToLeast();
        promise12AtNoCents();
        promise12GreatestWorthGoesFirst();
        promise12OfferedOnceADay();
        promise12Refusals();
        promise12RoomForPayments();
        promise13Round();
        promise13RoundOfBestIsFoundAheadOfTheFirst();
        promise13RoundWithoutRoom();
        promise13Refusals();
        promise14PlaceByNumbersAndTurns();
        promise14PlaceOfBest();
        promise14BestByTheLeastTakings();
        promise14BestOfLikeOnesIsTheLeastRow();
        promise14Refusals();
        promise15Would();
        promise15WouldWithoutRoom();
        promise15Refusals();
        promise16Foretold();
        promise16Refusals();
        promise17First();
        promise17Refusals();
        promise18Close();
        promise18LastDay();
        Checks.end("SalesTest");
    }

    private static void promise12TiesByBoughtThenSeat() {
        FlowerClock clock = Clocks.of(1, 1000, 5, 30, 1000, 5, 30, 1000, 5, 30);
        clock.want(1, 1, 2, 40);
        clock.want(0, 1, 1, 40);
        clock.lot(10, 3, 0, 0);
        Checks.same("sell(0)", clock.sell(0), 3);
        clock.lot(0, 12, 0, 0);
        Checks.same("sell(1)", clock.sell(1), 12);
        Clocks.paymentIs(clock, 2, 2, 1, 5, 30, 0, 0);
        Clocks.paymentIs(clock, 3, 0, 1, 5, 30, 0, 0);
        Clocks.paymentIs(clock, 4, 1, 1, 2, 30, 0, 0);
        clock.close();
        clock.want(0, 0, 5, 30);
        clock.want(1, 0, 5, 30);
        clock.lot(0, 1, 0, 0);
        clock.sell(2);
        Clocks.paymentIs(clock, 5, 0, 2, 1, 30, 1, 0);
    }

    private static void promise12BoughtInThisSaleCounts() {
        // Seat 0 buys at 50 and is left with 35 cents, as worthy at 35 as seat 1, which bought nothing.
        FlowerClock clock = Clocks.of(1, 85, 9, 50, 1000, 2, 50);
        clock.lot(0, 4, 0, 0);
        clock.sell(0);
        Clocks.paymentIs(clock, 0, 0, 0, 1, 50);
        Clocks.paymentIs(clock, 1, 1, 0, 2, 50);
        Clocks.paymentIs(clock, 2, 0, 0, 1, 35);
        FlowerClock like = Clocks.of(1, 85, 9, 50, 30, 9, 50);
        like.lot(0, 3, 0, 0);
        like.sell(0);
        Clocks.paymentIs(like, 0, 0, 0, 1, 50);
        Clocks.paymentIs(like, 1, 0, 0, 1, 35);
        Clocks.paymentIs(like, 2, 1, 0, 1, 30);
        FlowerClock tie = Clocks.of(1, 80, 9, 50, 30, 9, 50);
        tie.lot(0, 3, 0, 0);
        tie.sell(0);
        Clocks.paymentIs(tie, 1, 1, 0, 1, 30);
        Clocks.paymentIs(tie, 2, 0, 0, 1, 30);
    }

    private static void promise12CreditRunsOutAndComesAgainLower() {
        FlowerClock clock = Clocks.of(1, 250, 100, 99);
        clock.lot(0, 100, 1, 0);
        Checks.same("sell(0)", clock.sell(0), 3);
        Clocks.paymentIs(clock, 0, 0, 0, 2, 99);
        Clocks.paymentIs(clock, 1, 0, 0, 1, 52);
        Checks.same("count(4)", clock.count(4), 2);
        Checks.same("credit", clock.about(0, 0), 0);
        Checks.same("want", clock.about(0, 2), 97);
    }

    private static void promise12DownToLeast() {
        FlowerClock clock = Clocks.of(1, 1000, 5, 30, 1000, 5, 29);
        clock.lot(0, 20, 30, 0);
        clock.lot(0, 20, 31, 0);
        Checks.same("sell(1) above all limits", clock.sell(1), 0);
        Checks.same("it was offered", clock.look(1, 7), 1);
        Checks.same("sell(0) at its least", clock.sell(0), 5);
        Clocks.paymentIs(clock, 0, 0, 0, 5, 30);
        Checks.same("count(4)", clock.count(4), 1);
    }

    private static void promise12AtNoCents() {
        FlowerClock clock = Clocks.of(1, 0, 5, 99, 3, 6, 3);
        clock.lot(0, 20, 0, 0);
        Checks.same("sell(0)", clock.sell(0), 11);
        Clocks.paymentIs(clock, 0, 1, 0, 1, 3);
        Clocks.paymentIs(clock, 1, 0, 0, 5, 0);
        Clocks.paymentIs(clock, 2, 1, 0, 5, 0);
        FlowerClock wantless = Clocks.of(1, 1000, 0, 99);
        wantless.lot(0, 20, 0, 0);
        Checks.same("sell to nobody", wantless.sell(0), 0);
        FlowerClock limitless = Clocks.of(1, 1000, 7, 0);
        limitless.lot(0, 20, 0, 0);
        Checks.same("sell at a limit of 0", limitless.sell(0), 7);
        Clocks.paymentIs(limitless, 0, 0, 0, 7, 0);
    }

    private static void promise12GreatestWorthGoesFirst() {
        // At 40 both can stop it; the one of greater worth was short of credit above.
        FlowerClock clock = Clocks.of(1, 1000, 5, 40, 40, 5, 60);
        clock.lot(0, 6, 0, 0);
        clock.sell(0);
        Clocks.paymentIs(clock, 0, 1, 0, 1, 40);
        Clocks.paymentIs(clock, 1, 0, 0, 5, 40);
        FlowerClock feast = Clocks.of(1, 1000, 5, 40);
        feast.lot(300, 2, 0, 2);
        feast.lot(200, 2, 0, 2);
        feast.found(1, 1);
        feast.sell(0);
        feast.sell(1);
        Clocks.paymentIs(feast, 0, 0, 0, 2, 45);
        Clocks.paymentIs(feast, 1, 0, 1, 2, 33);
    }

    private static void promise12OfferedOnceADay() {
        FlowerClock clock = Clocks.of(1, 1000, 5, 40);
        clock.lot(200, 20, 0, 2);
        Checks.same("sell(0)", clock.sell(0), 5);
        Checks.refused(clock, "sell(0) again", -3, () -> clock.sell(0));
        clock.close();
        Checks.same("sell(0) on the day after", clock.sell(0), 0);
        Checks.refused(clock, "sell(0) again on the day after", -3, () -> clock.sell(0));
    }

    private static void promise12Refusals() {
        FlowerClock clock = Clocks.of(1, 1000, 5, 40);
        clock.lot(0, 5, 0, 0);
        Checks.refused(clock, "sell(-1)", -1, () -> clock.sell(-1));
        Checks.refused(clock, "sell(1)", -1, () -> clock.sell(1));
        clock.sell(0);
        Checks.refused(clock, "sell(0), which was offered", -3, () -> clock.sell(0));
        clock.close();
        Checks.refused(clock, "sell(0), which has none", -3, () -> clock.sell(0));
    }

    private static void promise12RoomForPayments() {
        FlowerClock clock = Clocks.withPayments(398);
        for (int buyer = 0; buyer < 12; buyer++) {
            clock.want(buyer, 1, 2, 0);
        }
        clock.lot(10, 100, 0, 0);
        Checks.same("a sale that ends for want of room", clock.sell(17), 4);
        Checks.same("count(4)", clock.count(4), 400);
        Checks.same("left", clock.look(17, 3), 96);
        Checks.same("want of the first who bought the fewest", clock.about(7, 3), 0);
        Checks.same("want of the second", clock.about(8, 3), 0);
        Checks.same("want of the third, who got none", clock.about(9, 3), 2);
        clock.lot(10, 100, 0, 0);
        Checks.same("a sale without room", clock.sell(18), 0);
        Checks.same("it was offered", clock.look(18, 7), 1);
        Checks.same("count(4)", clock.count(4), 400);
        Checks.same("the last payment", clock.payment(399, 1), 17);
        Checks.same("no payment 400", clock.payment(400, 0), -1);
        Checks.same("close", clock.close(), 196);
    }

    private static void promise13Round() {
        FlowerClock clock = Clocks.of(2, 10000, 25, 40);
        clock.lot(0, 10, 0, 0);
        clock.lot(1, 10, 41, 0);
        clock.lot(1, 10, 0, 0);
        clock.lot(0, 10, 0, 0);
        clock.sell(2);
        Checks.same("round(0)", clock.round(0), 15);
        Clocks.paymentIs(clock, 1, 0, 0, 10, 40);
        Clocks.paymentIs(clock, 2, 0, 3, 5, 40);
        Checks.same("lot 1 was offered", clock.look(1, 7), 1);
        Checks.same("count(7)", clock.count(7), 0);
        Checks.same("round(0) again", clock.round(0), 0);
        FlowerClock turns = Clocks.of(2, 10000, 12, 40);
        turns.lot(0, 5, 0, 0);
        turns.lot(0, 5, 0, 0);
        turns.lot(1, 5, 0, 0);
        Checks.same("round(2)", turns.round(2), 12);
        Clocks.paymentIs(turns, 0, 0, 0, 5, 40);
        Clocks.paymentIs(turns, 1, 0, 2, 5, 40);
        Clocks.paymentIs(turns, 2, 0, 1, 2, 40);
    }

    private static void promise13RoundOfBestIsFoundAheadOfTheFirst() {
        FlowerClock clock = Clocks.of(2, 1000, 5, 60, 1000, 5, 20);
        clock.lot(0, 5, 0, 0);
        clock.lot(1, 5, 50, 0);
        Checks.same("would(1)", clock.would(1), 400);
        Checks.same("round(1)", clock.round(1), 10);
        Clocks.paymentIs(clock, 0, 0, 1, 5, 60);
        Clocks.paymentIs(clock, 1, 1, 0, 5, 20);
        Checks.same("takings(0)", clock.takings(0), 100);
        Checks.same("takings(1)", clock.takings(1), 300);
    }

    private static void promise13RoundWithoutRoom() {
        FlowerClock clock = Clocks.withPayments(399);
        clock.close();
        clock.want(0, 0, 7, 10);
        clock.credit(0, 30);
        Checks.same("round(0) with room for one, at 13", clock.round(0), 2);
        Checks.same("all were offered", clock.count(7), 0);
        Checks.same("count(4)", clock.count(4), 400);
        clock.close();
        clock.want(0, 0, 7, 10);
        Checks.same("round(2) without room", clock.round(2), 0);
        Checks.same("all were offered", clock.count(7), 0);
    }

    private static void promise13Refusals() {
        FlowerClock clock = Clocks.of(2, 10000, 25, 40);
        for (int i = 0; i < 7; i++) {
            clock.lot(i % 2, 1, 0, 0);
        }
        Checks.refused(clock, "round(-1)", -1, () -> clock.round(-1));
        Checks.refused(clock, "round(3)", -1, () -> clock.round(3));
        Checks.refused(clock, "round(1) of 7", -5, () -> clock.round(1));
        clock.sell(6);
        Checks.same("round(1) of 6", clock.round(1), 6);
    }

    private static void promise14PlaceByNumbersAndTurns() {
        FlowerClock clock = Clocks.of(3, 10000, 25, 40);
        clock.lot(2, 5, 0, 0);
        clock.lot(2, 5, 0, 0);
        clock.lot(1, 5, 0, 0);
        clock.lot(2, 5, 0, 0);
        clock.lot(0, 5, 0, 0);
        clock.lot(1, 5, 0, 0);
        clock.lot(2, 5, 0, 0);
        Clocks.orderIs(clock, 0, 0, 1, 2, 3, 4, 5, 6);
        Clocks.orderIs(clock, 2, 4, 2, 0, 5, 1, 3, 6);
        clock.sell(0);
        clock.sell(4);
        Clocks.orderIs(clock, 0, 1, 2, 3, 5, 6);
        Clocks.orderIs(clock, 2, 2, 1, 5, 3, 6);
    }

    private static void promise14PlaceOfBest() {
        FlowerClock clock = Clocks.of(2, 1000, 5, 60, 1000, 5, 20);
        Clocks.orderIs(clock, 1);
        clock.lot(0, 5, 0, 0);
        Clocks.orderIs(clock, 1, 0);
        clock.lot(1, 5, 50, 0);
        Clocks.orderIs(clock, 1, 1, 0);
        clock.lot(1, 5, 55, 0);
        Clocks.orderIs(clock, 1, 1, 0, 2);
        for (int i = 0; i < 3; i++) {
            clock.lot(1, 1, 99, 0);
        }
        Clocks.orderIs(clock, 1, 1, 0, 2, 3, 4, 5);
        // Each sale takes the buyer of the greatest limit that is left: only the last row of all sells all.
        FlowerClock last = Clocks.of(1, 99, 1, 60, 99, 1, 50, 99, 1, 40, 99, 1, 30, 99, 1, 20, 99, 1, 10);
        for (int i = 1; i <= 6; i++) {
            last.lot(0, 1, 10 * i, 0);
        }
        Clocks.orderIs(last, 1, 5, 4, 3, 2, 1, 0);
        Checks.same("would(1)", last.would(1), 210);
    }

    private static void promise14BestByTheLeastTakings() {
        // One buyer, all at 50: who comes first is sold whole, so the total is like and the least decides.
        FlowerClock clock = Clocks.of(3, 500, 10, 50);
        clock.lot(0, 8, 50, 0);
        clock.lot(1, 3, 50, 0);
        Clocks.orderIs(clock, 1, 1, 0);
        // A grower without a lot in the order doesn't count with its nothing.
        FlowerClock dues = new FlowerClock();
        dues.grower(0);
        dues.grower(0);
        dues.buyer(1000);
        dues.want(0, 0, 10, 50);
        dues.lot(0, 2, 50, 0);
        dues.lot(1, 9, 50, 0);
        dues.lot(1, 1, 50, 0);
        Clocks.orderIs(dues, 1, 0, 1, 2);
        FlowerClock nothing = Clocks.of(2, 500, 10, 50);
        nothing.lot(0, 10, 50, 0);
        nothing.lot(1, 10, 50, 0);
        nothing.sell(1);
        nothing.credit(0, 500);
        nothing.want(0, 0, 10, 50);
        nothing.lot(0, 4, 50, 0);
        Clocks.orderIs(nothing, 1, 0, 2);
    }

    private static void promise14BestOfLikeOnesIsTheLeastRow() {
        FlowerClock clock = Clocks.of(1);
        for (int i = 0; i < 6; i++) {
            clock.lot(0, 3, 0, 0);
        }
        Clocks.orderIs(clock, 1, 0, 1, 2, 3, 4, 5);
        FlowerClock some = Clocks.of(2, 500, 10, 50);
        some.lot(0, 1, 0, 0);
        some.lot(0, 20, 50, 0);
        some.lot(1, 5, 50, 0);
        some.lot(1, 5, 50, 0);
        some.sell(0);
        some.credit(0, 500);
        some.want(0, 0, 10, 50);
        Clocks.orderIs(some, 1, 2, 1, 3);
    }

    private static void promise14Refusals() {
        FlowerClock clock = Clocks.of(1, 1000, 5, 60);
        clock.lot(0, 5, 0, 0);
        Checks.refused(clock, "place(-1, 0)", -1, () -> clock.place(-1, 0));
        Checks.refused(clock, "place(3, 0)", -1, () -> clock.place(3, 0));
        Checks.refused(clock, "place(0, -1)", -1, () -> clock.place(0, -1));
        for (int order = 0; order < 3; order++) {
            int of = order;
            Checks.refused(clock, "place(" + of + ", 1)", -3, () -> clock.place(of, 1));
            Checks.refused(clock, "place(" + of + ", MAX)", -3, () -> clock.place(of, Integer.MAX_VALUE));
        }
        for (int i = 0; i < 6; i++) {
            clock.lot(0, 5, 0, 0);
        }
        Checks.refused(clock, "place(1, 0) of 7", -5, () -> clock.place(1, 0));
        Checks.refused(clock, "place(1, 7) of 7", -5, () -> clock.place(1, 7));
        Checks.refused(clock, "place(1, -1) of 7", -1, () -> clock.place(1, -1));
        Checks.refused(clock, "place(0, 7) of 7", -3, () -> clock.place(0, 7));
    }

    private static void promise15Would() {
        FlowerClock clock = Clocks.of(0, 1000, 5, 60, 1000, 5, 20);
        clock.grower(10);
        clock.grower(50);
        clock.lot(0, 5, 0, 0);
        clock.lot(1, 5, 20, 0);
        Checks.refused(clock, "would(0)", 270 + 50, () -> clock.would(0));
        Checks.refused(clock, "would(1)", 270 + 50, () -> clock.would(1));
        Checks.refused(clock, "would(2)", 270 + 50, () -> clock.would(2));
        clock.round(0);
        Checks.same("would(0) after the sales", clock.would(0), 0);
        Checks.same("takings are as foreseen", clock.takings(0) + clock.takings(1), 320);
    }

    private static void promise15WouldWithoutRoom() {
        FlowerClock clock = Clocks.withPayments(400);
        clock.close();
        clock.want(0, 0, 7, 10);
        clock.credit(0, 1000);
        Checks.same("would(0) as if there were room, at 13", clock.would(0), 91);
        Checks.same("would(2) as if there were room, at 13", clock.would(2), 91);
        Checks.same("round(0) has none", clock.round(0), 0);
    }

    private static void promise15Refusals() {
        FlowerClock clock = Clocks.of(1, 1000, 5, 60);
        for (int i = 0; i < 7; i++) {
            clock.lot(0, 5, 0, 0);
        }
        Checks.thrown(clock, "would(-1)", IllegalArgumentException.class, () -> clock.would(-1));
        Checks.thrown(clock, "would(3)", IllegalArgumentException.class, () -> clock.would(3));
        Checks.thrown(clock, "would(1) of 7", IllegalStateException.class, () -> clock.would(1));
    }

    private static void promise16Foretold() {
        FlowerClock clock = Clocks.of(1, 1000, 5, 60, 50, 5, 80);
        Checks.refused(clock, "foretold(0)", 60, () -> clock.foretold(0));
        Checks.refused(clock, "foretold(1)", -2, () -> clock.foretold(1));
        clock.want(0, 0, 0, 60);
        Checks.same("foretold(0) by what credit there is", clock.foretold(0), 50);
        clock.credit(1, 0);
        Checks.same("foretold(0) without credit", clock.foretold(0), 0);
        clock.want(1, 0, 0, 80);
        Checks.same("foretold(0) without wants", clock.foretold(0), -2);
        clock.want(1, 5, 1, 99);
        clock.credit(1, 99);
        Checks.same("foretold(5)", clock.foretold(5), 99);
    }

    private static void promise16Refusals() {
        FlowerClock clock = Clocks.of(1, 1000, 5, 60);
        Checks.refused(clock, "foretold(-1)", -1, () -> clock.foretold(-1));
        Checks.refused(clock, "foretold(6)", -1, () -> clock.foretold(6));
    }

    private static void promise17First() {
        FlowerClock clock = Clocks.of(1, 1000, 5, 60, 50, 5, 80, 1000, 5, 60);
        Checks.refused(clock, "first(0)", 0, () -> clock.first(0));
        Checks.refused(clock, "first(1)", -2, () -> clock.first(1));
        clock.lot(0, 1, 60, 0);
        clock.sell(0);
        Checks.same("first(0) by fewer bought", clock.first(0), 2);
        clock.close();
        Checks.same("first(0) by seats on the day after", clock.first(0), 0);
        clock.want(0, 0, 1, 50);
        clock.want(2, 0, 1, 50);
        Checks.same("first(0) by the greatest worth", clock.first(0), 1);
    }

    private static void promise17Refusals() {
        FlowerClock clock = Clocks.of(1, 1000, 5, 60);
        Checks.refused(clock, "first(-1)", -1, () -> clock.first(-1));
        Checks.refused(clock, "first(6)", -1, () -> clock.first(6));
    }

    private static void promise18Close() {
        FlowerClock clock = Clocks.of(1, 10000, 5, 40);
        clock.lot(0, 20, 0, 0);
        clock.lot(100, 30, 0, 1);
        clock.lot(200, 40, 0, 1);
        clock.lot(300, 50, 0, 1);
        clock.lot(0, 60, 0, 1);
        for (int lot = 0; lot < 4; lot++) {
            clock.sell(lot);
        }
        Checks.same("close()", clock.close(), 15 + 30 + 50);
        int[] left = {0, 0, 40, 0, 60};
        for (int lot = 0; lot < 5; lot++) {
            Checks.same("left of " + lot, clock.look(lot, 3), left[lot]);
            Checks.same("offered " + lot, clock.look(lot, 7), 0);
        }
        Checks.same("the day", clock.count(3), 1);
        Checks.same("crushed", clock.count(5), 95);
        Checks.same("bought", clock.about(0, 1), 0);
        Checks.same("sold", clock.look(0, 8), 5);
        Checks.same("close() of a day without sales", clock.close(), 0);
        clock.sell(4);
        Checks.same("close()", clock.close(), 60);
        Checks.same("crushed in all", clock.count(5), 155);
        Checks.same("the day", clock.count(3), 3);
    }

    private static void promise18LastDay() {
        FlowerClock clock = Clocks.of(1, 10000, 5, 40);
        clock.lot(0, 20, 0, 0);
        for (int day = 0; day < 1000; day++) {
            clock.close();
        }
        clock.sell(0);
        Checks.same("the last day", clock.count(3), 1000);
        Checks.refused(clock, "close() of the last day", -2, () -> clock.close());
    }
}
