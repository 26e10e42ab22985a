/** The edges that the terms name for a SALE, TAKINGS and THE DAY that CLOSES: a method for each sentence. */
final class SaleBoundaries {
    private SaleBoundaries() {
    }

    static void run() {
        handFallsFrom99DownToLeast();
        stoppedByWorthOfThePriceOrMore();
        stoppedByWantOf1AndCreditOfThePrice();
        theGreatestWorthGoesFirst();
        thenTheFewestBoughtOnTheDay();
        thenTheLeastSeat();
        takesWhatItWants();
        takesWhatIsLeft();
        takesCreditDividedByThePrice();
        paymentChangesCreditWantAndBought();
        handGoesOnFromWhereItIs();
        saleEndsWithoutStems();
        saleEndsBelowLeast();
        takingsAreStemsTimesPrice();
        dueIsCutForEachPayment();
        offeredOnceADay();
        closeCrushesWhatWasOffered();
        closeLeavesCooledOnes();
        closeMakesTheDayOneMore();
        closeMakesBoughtZero();
    }

    private static void handFallsFrom99DownToLeast() {
        Checks.holds(0, "A SALE of a LOT: the hand falls from 99, cent by cent, down to LEAST.");
        FlowerClock clock = Clocks.of(1, 1000, 1, 99, 1000, 1, 98, 1000, 1, 50, 1000, 1, 49);
        clock.lot(0, 9, 50, 0);
        Checks.same("sell", clock.sell(0), 3);
        Clocks.paymentIs(clock, 0, 0, 0, 1, 99);
        Clocks.paymentIs(clock, 1, 1, 0, 1, 98);
        Clocks.paymentIs(clock, 2, 2, 0, 1, 50);
        Checks.same("who would have paid 49 gets none", clock.about(3, 1), 0);
        FlowerClock zero = Clocks.of(1, 1000, 1, 1, 1000, 1, 0);
        zero.lot(0, 9, 1, 0);
        zero.lot(0, 9, 0, 0);
        Checks.same("sell down to 1", zero.sell(0), 1);
        Checks.same("sell down to 0", zero.sell(1), 1);
        Clocks.paymentIs(zero, 1, 1, 1, 1, 0);
    }

    private static void stoppedByWorthOfThePriceOrMore() {
        Checks.holds(0, "At cent p it is stopped, if there are BUYERS whose WORTH is p or more");
        FlowerClock clock = Clocks.of(1, 1000, 1, 40);
        clock.lot(0, 9, 41, 0);
        clock.lot(200, 9, 44, 1);
        clock.lot(200, 9, 43, 1);
        Checks.same("least one above the WORTH", clock.sell(0), 0);
        Checks.same("least one above the WORTH of a cooled one", clock.sell(1), 0);
        Checks.same("least at the WORTH of a cooled one", clock.sell(2), 1);
        Clocks.paymentIs(clock, 0, 0, 2, 1, 43);
        FlowerClock nobody = Clocks.of(1);
        nobody.lot(0, 9, 0, 0);
        Checks.same("sell without buyers", nobody.sell(0), 0);
        Checks.same("no payment", nobody.count(4), 0);
        Checks.same("OFFERED all the same", nobody.look(0, 7), 1);
    }

    private static void stoppedByWant1AndCredit(int want, int credit, int sold, int price) {
        FlowerClock clock = Clocks.of(1, credit, want, 40);
        clock.lot(0, 9, 0, 0);
        Checks.same("sell to WANT " + want + ", CREDIT " + credit, clock.sell(0), sold);
        Checks.same("price", clock.payment(0, 3), price);
    }

    private static void stoppedByWantOf1AndCreditOfThePrice() {
        Checks.holds(0, "whose WANT of the SORT and whose CREDIT is 1, p or more");
        stoppedByWant1AndCredit(0, 1000, 0, -1);
        stoppedByWant1AndCredit(1, 41, 1, 40);
        stoppedByWant1AndCredit(1, 40, 1, 40);
        stoppedByWant1AndCredit(1, 39, 1, 39);
        stoppedByWant1AndCredit(1, 1, 1, 1);
        stoppedByWant1AndCredit(1, 0, 1, 0);
        FlowerClock other = Clocks.of(1, 1000, 5, 40);
        other.lot(10, 9, 0, 0);
        Checks.same("a WANT of another SORT doesn't stop it", other.sell(0), 0);
        FlowerClock least = Clocks.of(1, 39, 1, 40);
        least.lot(0, 9, 40, 0);
        least.lot(0, 9, 39, 0);
        Checks.same("CREDIT one below LEAST", least.sell(0), 0);
        Checks.same("CREDIT of LEAST", least.sell(1), 1);
    }

    private static void theGreatestWorthGoesFirst() {
        Checks.holds(0, "by the one of the greatest WORTH");
        FlowerClock clock = Clocks.of(1, 1000, 1, 40, 1000, 1, 41);
        clock.lot(0, 2, 0, 0);
        clock.sell(0);
        Clocks.paymentIs(clock, 0, 1, 0, 1, 41);
        Clocks.paymentIs(clock, 1, 0, 0, 1, 40);
        // At 40 both can stop it: seat 1 is worth more, though it is there by its CREDIT, and bought more.
        FlowerClock credit = Clocks.of(1, 1000, 1, 40, 40, 1, 41);
        credit.want(1, 1, 1, 0);
        credit.lot(10, 1, 0, 0);
        credit.lot(0, 2, 0, 0);
        credit.round(0);
        Clocks.paymentIs(credit, 0, 1, 0, 1, 0);
        Clocks.paymentIs(credit, 1, 1, 1, 1, 40);
        Clocks.paymentIs(credit, 2, 0, 1, 1, 40);
    }

    private static void thenTheFewestBoughtOnTheDay() {
        Checks.holds(0, "of like ones with the fewest stems BOUGHT on THE DAY (of all SORTS, in this SALE, too)");
        FlowerClock clock = Clocks.of(1, 1000, 3, 40, 1000, 3, 40);
        clock.want(0, 5, 1, 10);
        clock.lot(50, 1, 0, 0);
        clock.lot(0, 3, 0, 0);
        clock.lot(0, 3, 0, 0);
        clock.sell(0);
        clock.sell(1);
        Checks.same("seat 0 bought 1 of another SORT", clock.payment(1, 0), 1);
        clock.sell(2);
        Checks.same("seat 1 wants none any more", clock.payment(2, 0), 0);
        FlowerClock day = Clocks.of(1, 1000, 3, 40, 1000, 3, 40);
        day.want(0, 5, 1, 10);
        day.lot(50, 1, 0, 0);
        day.lot(0, 3, 0, 0);
        day.sell(0);
        day.close();
        day.sell(1);
        Checks.same("what was BOUGHT on the day before doesn't count", day.payment(1, 0), 0);
        // Seat 0 buys one at 50; at 30 it is as worthy as seat 1, which bought none in this SALE.
        FlowerClock sale = Clocks.of(1, 80, 9, 50, 30, 9, 50);
        sale.lot(0, 3, 0, 0);
        sale.sell(0);
        Clocks.paymentIs(sale, 0, 0, 0, 1, 50);
        Clocks.paymentIs(sale, 1, 1, 0, 1, 30);
        Clocks.paymentIs(sale, 2, 0, 0, 1, 30);
    }

    private static void thenTheLeastSeat() {
        Checks.holds(0, "of like ones with the least SEAT");
        FlowerClock clock = Clocks.of(1);
        for (int seat = 0; seat < 12; seat++) {
            clock.buyer(100);
            clock.want(seat, 0, 1, 20);
        }
        clock.lot(0, 12, 0, 0);
        Checks.same("sell", clock.sell(0), 12);
        for (int seat = 0; seat < 12; seat++) {
            Clocks.paymentIs(clock, seat, seat, 0, 1, 20);
        }
        FlowerClock again = Clocks.of(1, 100, 2, 20, 100, 2, 20);
        again.lot(0, 1, 0, 0);
        again.lot(0, 1, 0, 0);
        again.lot(0, 1, 0, 0);
        again.round(0);
        Checks.same("first", again.payment(0, 0), 0);
        Checks.same("then the one that BOUGHT fewer", again.payment(1, 0), 1);
        Checks.same("then like ones again", again.payment(2, 0), 0);
    }

    private static void takesWhatItWants() {
        Checks.holds(0, "It takes as many stems as it WANTS");
        FlowerClock clock = Clocks.of(1, 1000000, 7, 50);
        clock.lot(0, 8, 0, 0);
        clock.lot(0, 8, 0, 0);
        Checks.same("sell", clock.sell(0), 7);
        Clocks.paymentIs(clock, 0, 0, 0, 7, 50);
        Checks.same("left", clock.look(0, 3), 1);
        Checks.same("sell when it wants none any more", clock.sell(1), 0);
    }

    private static void takesWhatIsLeft() {
        Checks.holds(0, "as are left");
        FlowerClock clock = Clocks.of(1, 1000000, 9, 50, 1000000, 9, 40);
        clock.lot(0, 8, 0, 0);
        clock.lot(0, 1, 0, 0);
        Checks.same("sell", clock.sell(0), 8);
        Checks.same("one payment", clock.count(4), 1);
        Checks.same("none left", clock.look(0, 3), 0);
        Checks.same("WANT", clock.about(0, 2), 1);
        Checks.same("sell the last one wanted", clock.sell(1), 1);
        Clocks.paymentIs(clock, 1, 0, 1, 1, 50);
    }

    private static void takesByCredit(int credit, int limit, int stems, int rest) {
        FlowerClock clock = Clocks.of(1, credit, 1000, limit);
        clock.lot(0, 1000, limit, 0);
        Checks.same("sell to CREDIT " + credit + " at " + limit, clock.sell(0), stems);
        Checks.same("CREDIT that is left", clock.about(0, 0), rest);
    }

    private static void takesCreditDividedByThePrice() {
        Checks.holds(0, "and (p above 0) as CREDIT divided by p");
        takesByCredit(99, 50, 1, 49);
        takesByCredit(100, 50, 2, 0);
        takesByCredit(101, 50, 2, 1);
        takesByCredit(98, 99, 0, 98);
        takesByCredit(99, 99, 1, 0);
        takesByCredit(1, 1, 1, 0);
        takesByCredit(1000000, 99, 1000, 901000);
        takesByCredit(0, 0, 1000, 0);
        takesByCredit(5, 0, 1000, 5);
    }

    private static void paymentChangesCreditWantAndBought() {
        Checks.holds(0, "a PAYMENT; CREDIT is less by p for each, WANT by as many, BOUGHT more");
        FlowerClock clock = Clocks.of(1, 100, 3, 30);
        clock.want(0, 1, 5, 10);
        clock.lot(0, 2, 0, 0);
        clock.lot(0, 9, 0, 0);
        clock.lot(10, 1, 0, 0);
        clock.sell(0);
        int[] after0 = {40, 2, 1, 5};
        for (int what = 0; what < 4; what++) {
            Checks.same("about(0, " + what + ")", clock.about(0, what), after0[what]);
        }
        clock.sell(1);
        clock.sell(2);
        int[] after2 = {0, 4, 0, 4};
        for (int what = 0; what < 4; what++) {
            Checks.same("about(0, " + what + ") at the end", clock.about(0, what), after2[what]);
        }
        Checks.same("LIMIT is as before", clock.about(0, 8), 30);
        Checks.same("PAYMENTS", clock.count(4), 3);
    }

    private static void handGoesOnFromWhereItIs() {
        Checks.holds(0, "With what is left the hand goes on from p.");
        // Seat 0 is left with 45 cents after the first stem, and with none after the fourth.
        FlowerClock clock = Clocks.of(1, 105, 9, 60, 1000, 1, 60, 1000, 1, 59);
        clock.lot(0, 9, 0, 0);
        Checks.same("sell", clock.sell(0), 9);
        Clocks.paymentIs(clock, 4, 0, 0, 5, 0);
        Checks.same("PAYMENTS", clock.count(4), 5);
        FlowerClock again = Clocks.of(1, 105, 9, 60, 1000, 1, 60, 1000, 1, 59);
        again.lot(0, 4, 0, 0);
        Checks.same("sell", again.sell(0), 4);
        Clocks.paymentIs(again, 0, 0, 0, 1, 60);
        Clocks.paymentIs(again, 1, 1, 0, 1, 60);
        Clocks.paymentIs(again, 2, 2, 0, 1, 59);
        Clocks.paymentIs(again, 3, 0, 0, 1, 45);
        Checks.same("PAYMENTS", again.count(4), 4);
    }

    private static void saleEndsWithoutStems() {
        Checks.holds(0, "The SALE ends when no stems are left");
        FlowerClock clock = Clocks.of(1, 1000, 5, 50, 1000, 5, 50);
        clock.lot(0, 5, 0, 0);
        clock.lot(0, 6, 0, 0);
        Checks.same("sell", clock.sell(0), 5);
        Checks.same("one PAYMENT", clock.count(4), 1);
        Checks.same("sell the next", clock.sell(1), 5);
        Checks.same("one is left", clock.look(1, 3), 1);
    }

    private static void saleEndsBelowLeast() {
        Checks.holds(0, "or the hand is below LEAST.");
        FlowerClock clock = Clocks.of(1, 105, 9, 60);
        clock.lot(0, 9, 46, 0);
        clock.lot(0, 9, 45, 0);
        Checks.same("sell down to 46", clock.sell(0), 1);
        Checks.same("sell down to 45", clock.sell(1), 1);
        Clocks.paymentIs(clock, 1, 0, 1, 1, 45);
        FlowerClock zero = Clocks.of(1, 0, 9, 99);
        zero.lot(0, 4, 1, 0);
        zero.lot(0, 4, 0, 0);
        Checks.same("sell down to 1, without CREDIT", zero.sell(0), 0);
        Checks.same("sell down to 0, without CREDIT", zero.sell(1), 4);
    }

    private static void takingsAreStemsTimesPrice() {
        Checks.holds(0, "TAKINGS of a GROWER: of each PAYMENT for its LOTS stems times p");
        FlowerClock clock = Clocks.of(2, 1000000, 1000, 99);
        Checks.same("TAKINGS without PAYMENTS", clock.takings(0), 0);
        clock.lot(1, 1000, 0, 0);
        clock.sell(0);
        Checks.same("the most that a PAYMENT can be", clock.takings(1), 99000);
        Checks.same("TAKINGS of the other", clock.takings(0), 0);
        clock.want(0, 0, 1, 0);
        clock.lot(0, 1, 0, 0);
        clock.sell(1);
        Checks.same("TAKINGS at no cents", clock.takings(0), 0);
    }

    private static void dueIsCut(int due, int cents, int takings) {
        FlowerClock clock = new FlowerClock();
        clock.grower(due);
        clock.buyer(1000);
        clock.want(0, 0, 1, cents);
        clock.lot(0, 1, 0, 0);
        clock.sell(0);
        Checks.same("TAKINGS of " + cents + " at a DUE of " + due, clock.takings(0), takings);
    }

    private static void dueIsCutForEachPayment() {
        Checks.holds(0, "less (hundredths of that by DUE, cut)");
        dueIsCut(99, 1, 1);
        dueIsCut(100, 1, 0);
        dueIsCut(1, 99, 99);
        dueIsCut(2, 50, 49);
        dueIsCut(2, 49, 49);
        dueIsCut(50, 1, 1);
        dueIsCut(50, 2, 1);
        dueIsCut(50, 3, 2);
        dueIsCut(0, 99, 99);
        FlowerClock two = new FlowerClock();
        two.grower(50);
        two.buyer(1000);
        two.buyer(1000);
        two.want(0, 0, 1, 3);
        two.want(1, 0, 1, 3);
        two.lot(0, 2, 0, 0);
        two.sell(0);
        Checks.same("3 and 3 at a DUE of 50, cut for each", two.takings(0), 4);
    }

    private static void offeredOnceADay() {
        Checks.holds(0, "A LOT is OFFERED once on a DAY.");
        FlowerClock clock = Clocks.of(1, 1000, 1, 50);
        clock.lot(200, 9, 0, 1);
        clock.lot(200, 9, 99, 1);
        Checks.same("sell some", clock.sell(0), 1);
        Checks.same("sell none", clock.sell(1), 0);
        clock.want(0, 0, 9, 99);
        Checks.refused(clock, "again, with stems left", -3, () -> clock.sell(0));
        Checks.refused(clock, "again, when none was sold", -3, () -> clock.sell(1));
        Checks.same("a round of none", clock.round(0), 0);
        clock.close();
        Checks.same("both on the next DAY", clock.round(0), 9);
        Checks.refused(clock, "once on that, too", -3, () -> clock.sell(1));
    }

    private static void closeCrushesWhatWasOffered() {
        Checks.holds(0, "THE DAY CLOSES: stems that are left of LOTS that were OFFERED on it are CRUSHED "
            + "(none are left)");
        FlowerClock clock = Clocks.of(1, 1000, 4, 50);
        clock.lot(0, 5, 0, 0);
        clock.lot(100, 3, 0, 1);
        clock.lot(300, 2, 0, 0);
        clock.lot(0, 7, 0, 0);
        clock.sell(0);
        clock.sell(1);
        clock.sell(2);
        Checks.same("close()", clock.close(), 1 + 3 + 2);
        for (int lot = 0; lot < 3; lot++) {
            int of = lot;
            Checks.same("left of " + lot, clock.look(lot, 3), 0);
            Checks.refused(clock, "sell one that is crushed", -3, () -> clock.sell(of));
        }
        Checks.same("left of one that wasn't OFFERED", clock.look(3, 3), 7);
        Checks.same("an ORDER has that alone", clock.count(7), 1);
        Checks.same("close() without SALES", clock.close(), 0);
        FlowerClock all = Clocks.of(1, 1000, 5, 50);
        all.lot(0, 5, 0, 0);
        all.sell(0);
        Checks.same("close() when all is sold", all.close(), 0);
        Checks.same("what was OFFERED a DAY ago isn't again", all.close(), 0);
    }

    private static void closeLeavesCooledOnes() {
        Checks.holds(0, "of COOLED ones not");
        FlowerClock clock = Clocks.of(1, 1000, 4, 50);
        clock.lot(200, 5, 0, 1);
        clock.lot(200, 6, 0, 1);
        clock.sell(0);
        clock.sell(1);
        Checks.same("close()", clock.close(), 0);
        Checks.same("left", clock.look(0, 3), 1);
        Checks.same("left", clock.look(1, 3), 6);
        Checks.same("CRUSHED in all", clock.count(5), 0);
        Checks.same("both can be OFFERED again", clock.count(7), 2);
    }

    private static void closeMakesTheDayOneMore() {
        Checks.holds(0, "THE DAY is one more");
        FlowerClock clock = new FlowerClock();
        for (int day = 0; day < 1000; day++) {
            clock.close();
        }
        Checks.same("THE DAY after 1000", clock.count(3), 1000);
        Checks.refused(clock, "one more", -2, () -> clock.close());
        Checks.same("THE DAY", clock.count(3), 1000);
    }

    private static void closeMakesBoughtZero() {
        Checks.holds(0, "BOUGHT is 0.");
        FlowerClock clock = Clocks.of(1);
        for (int seat = 0; seat < 12; seat++) {
            clock.buyer(1000);
            clock.want(seat, 0, 2, 10);
        }
        clock.lot(0, 24, 0, 0);
        clock.sell(0);
        for (int seat = 0; seat < 12; seat++) {
            Checks.same("BOUGHT", clock.about(seat, 1), 2);
        }
        clock.close();
        for (int seat = 0; seat < 12; seat++) {
            Checks.same("BOUGHT on the next DAY", clock.about(seat, 1), 0);
            Checks.same("CREDIT stays", clock.about(seat, 0), 980);
        }
    }
}
