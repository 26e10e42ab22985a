/** Promises 1 to 11, growers, lots, buyers: a method for each sentence. */
final class StockPromisesBoundaries {
    private StockPromisesBoundaries() {
    }

    static void run() {
        promise1();
        promise2Number();
        promise2TenAreThere();
        promise3Told();
        promise3PlainTakesAnyExtra();
        promise3Number();
        promise3FortyAreThere();
        promise4TheOneBefore();
        promise4NoMark();
        promise5Seat();
        promise5TwelveAreThere();
        promise6TheWantBefore();
        promise7WhatItWas();
        promise8Worth();
        promise9Look();
        promise9MarkOrDay();
        promise9Found();
        promise9Offered();
        promise9Sold();
        promise10About();
        promise11Takings();
    }

    private static void promise1() {
        Checks.holds(1, "No GROWERS, LOTS, BUYERS; THE DAY is 0.");
        FlowerClock clock = new FlowerClock();
        for (int what = 0; what <= 7; what++) {
            Checks.same("count(" + what + ")", clock.count(what), 0);
        }
        Checks.refused(clock, "look(0, 0)", -1, () -> clock.look(0, 0));
        Checks.refused(clock, "found(0, 0)", -1, () -> clock.found(0, 0));
        Checks.refused(clock, "about(0, 0)", -1, () -> clock.about(0, 0));
        Checks.refused(clock, "want(0, 0, 1, 1)", -1, () -> clock.want(0, 0, 1, 1));
        Checks.refused(clock, "credit(0, 1)", -1, () -> clock.credit(0, 1));
        Checks.refused(clock, "worth(0, 0)", -1, () -> clock.worth(0, 0));
        Checks.refused(clock, "sell(0)", -1, () -> clock.sell(0));
        Checks.refused(clock, "claim(0, 1)", -1, () -> clock.claim(0, 1));
        Checks.refused(clock, "cart(0)", -1, () -> clock.cart(0));
        Checks.refused(clock, "keep(0, 1, 0)", -1, () -> clock.keep(0, 1, 0));
        Checks.refused(clock, "keep(0, 3, 0)", -1, () -> clock.keep(0, 3, 0));
        Checks.thrown(clock, "takings(0)", IllegalArgumentException.class, () -> clock.takings(0));
        Checks.thrown(clock, "bill(0, 0)", IllegalArgumentException.class, () -> clock.bill(0, 0));
        for (int sort = 0; sort < 6; sort++) {
            Checks.same("foretold", clock.foretold(sort), -2);
            Checks.same("first", clock.first(sort), -2);
        }
        FlowerClock other = new FlowerClock();
        other.grower(0);
        other.close();
        Checks.same("another's GROWER isn't its own", clock.count(0), 0);
        Checks.same("another's DAY isn't its own", clock.count(3), 0);
    }

    private static void promise2Number() {
        Checks.holds(2, "A GROWER comes: its number.");
        FlowerClock clock = new FlowerClock();
        Checks.same("the first", clock.grower(7), 0);
        Checks.holds(2, "-1");
        Checks.refused(clock, "grower(-1)", -1, () -> clock.grower(-1));
        Checks.refused(clock, "grower(101)", -1, () -> clock.grower(101));
        Checks.same("a refused one takes no number", clock.grower(7), 1);
    }

    private static void promise2TenAreThere() {
        Checks.holds(2, "-2: there are 10.");
        FlowerClock clock = Clocks.of(9);
        Checks.same("the tenth", clock.grower(0), 9);
        Checks.refused(clock, "the eleventh", -2, () -> clock.grower(0));
        Checks.refused(clock, "the eleventh again", -2, () -> clock.grower(100));
        Checks.refused(clock, "the eleventh, not as told", -1, () -> clock.grower(-1));
    }

    private static void promise3Told() {
        Checks.holds(3, "A LOT: KIND, SORT, GROWER told as 100 * KIND + 10 * SORT + GROWER; MARK or DAY as extra");
        FlowerClock clock = Clocks.of(10);
        int[] told = {0, 9, 50, 59, 100, 159, 205, 250, 259, 300, 359};
        for (int lot = 0; lot < told.length; lot++) {
            clock.lot(told[lot], 5, 6, 3);
            Checks.same("KIND of " + told[lot], clock.look(lot, 0), told[lot] / 100);
            Checks.same("SORT of " + told[lot], clock.look(lot, 2), told[lot] / 10 % 10);
            Checks.same("GROWER of " + told[lot], clock.look(lot, 1), told[lot] % 10);
            Checks.same("MARK or DAY of " + told[lot], clock.look(lot, 5), told[lot] < 100 ? -2 : 3);
        }
        for (int wrong : new int[] {-1, 60, 99, 160, 260, 360, 399, 400, 459, 1000, Clocks.MIN, Clocks.MAX}) {
            Checks.refused(clock, "told as " + wrong, -1, () -> clock.lot(wrong, 5, 6, 3));
        }
    }

    private static void promise3PlainTakesAnyExtra() {
        Checks.holds(3, "(of PLAIN ones any)");
        FlowerClock clock = Clocks.of(1);
        int[] extras = {0, 1, -1, 4, 1001, Clocks.MIN, Clocks.MAX};
        for (int i = 0; i < extras.length; i++) {
            Checks.same("extra " + extras[i], clock.lot(0, 5, 0, extras[i]), i);
            Checks.same("it has neither MARK nor DAY", clock.look(i, 5), -2);
        }
    }

    private static void promise3Number() {
        Checks.holds(3, "its number.");
        FlowerClock clock = Clocks.of(1);
        Checks.same("the first", clock.lot(0, 5, 0, 0), 0);
        Checks.holds(3, "-1");
        Checks.refused(clock, "no stems", -1, () -> clock.lot(0, 0, 0, 0));
        Checks.refused(clock, "no such GROWER", -1, () -> clock.lot(1, 5, 0, 0));
        Checks.same("a refused one takes no number", clock.lot(0, 5, 0, 0), 1);
    }

    private static void promise3FortyAreThere() {
        Checks.holds(3, "-2: there are 40.");
        FlowerClock clock = Clocks.of(1, 1000, 5, 10);
        for (int i = 0; i < 39; i++) {
            clock.lot(0, 5, 0, 0);
        }
        Checks.same("the fortieth", clock.lot(300, 5, 0, 0), 39);
        Checks.refused(clock, "one more", -2, () -> clock.lot(0, 5, 0, 0));
        Checks.refused(clock, "one more, not as told", -1, () -> clock.lot(300, 5, 0, -1));
        clock.sell(0);
        clock.close();
        Checks.refused(clock, "a LOT without stems makes no room", -2, () -> clock.lot(0, 5, 0, 0));
    }

    private static void promise4TheOneBefore() {
        Checks.holds(4, "A quality is FOUND of a LOT: the one before (-2: none).");
        FlowerClock clock = Clocks.of(1);
        clock.lot(100, 5, 0, 3);
        Checks.same("none before", clock.found(0, 0), -2);
        Checks.same("0 before", clock.found(0, 3), 0);
        Checks.same("3 before", clock.found(0, 3), 3);
        Checks.holds(4, "-1");
        Checks.refused(clock, "found(0, -1)", -1, () -> clock.found(0, -1));
        Checks.refused(clock, "found(0, 4)", -1, () -> clock.found(0, 4));
        Checks.refused(clock, "found(1, 0)", -1, () -> clock.found(1, 0));
        Checks.refused(clock, "found(-1, 0)", -1, () -> clock.found(-1, 0));
        clock.sell(0);
        clock.close();
        Checks.same("of a LOT without stems", clock.found(0, 1), 3);
    }

    private static void promise4NoMark() {
        Checks.holds(4, "-3: it has no MARK.");
        FlowerClock clock = Clocks.of(1);
        clock.lot(0, 5, 0, 2);
        clock.lot(300, 5, 0, 2);
        Checks.refused(clock, "found of a PLAIN one", -3, () -> clock.found(0, 0));
        Checks.refused(clock, "found of a FEAST one", -3, () -> clock.found(1, 3));
        Checks.refused(clock, "found of a PLAIN one, no such quality", -1, () -> clock.found(0, 4));
    }

    private static void promise5Seat() {
        Checks.holds(5, "A BUYER comes: its SEAT.");
        FlowerClock clock = new FlowerClock();
        Checks.same("the first", clock.buyer(0), 0);
        Checks.holds(5, "-1");
        Checks.refused(clock, "buyer(-1)", -1, () -> clock.buyer(-1));
        Checks.refused(clock, "buyer(1000001)", -1, () -> clock.buyer(1000001));
        Checks.same("a refused one takes no SEAT", clock.buyer(1000000), 1);
    }

    private static void promise5TwelveAreThere() {
        Checks.holds(5, "-2: there are 12.");
        FlowerClock clock = new FlowerClock();
        for (int seat = 0; seat < 12; seat++) {
            Checks.same("SEAT", clock.buyer(seat), seat);
        }
        Checks.refused(clock, "one more", -2, () -> clock.buyer(0));
        Checks.refused(clock, "one more, not as told", -1, () -> clock.buyer(1000001));
    }

    private static void promise6TheWantBefore() {
        Checks.holds(6, "WANT and LIMIT of a BUYER for a SORT: the WANT before.");
        FlowerClock clock = Clocks.of(1);
        clock.buyer(1000);
        clock.buyer(1000);
        Checks.same("none before", clock.want(1, 2, 1000, 99), 0);
        Checks.same("1000 before", clock.want(1, 2, 7, 0), 1000);
        clock.want(1, 2, 7, 10);
        clock.lot(20, 3, 0, 0);
        clock.sell(0);
        Checks.same("less what was bought", clock.want(1, 2, 0, 5), 4);
        Checks.same("WANT", clock.about(1, 4), 0);
        Checks.same("LIMIT", clock.about(1, 10), 5);
        Checks.same("WANT of the other", clock.about(0, 4), 0);
        Checks.same("LIMIT for another SORT", clock.about(1, 9), 0);
        Checks.holds(6, "-1");
        int[][] wrong = {{-1, 0, 1, 1}, {2, 0, 1, 1}, {0, -1, 1, 1}, {0, 6, 1, 1}, {0, 0, -1, 1}, {0, 0, 1001, 1},
            {0, 0, 1, -1}, {0, 0, 1, 100}, {Clocks.MIN, 0, 1, 1}, {Clocks.MAX, 0, 1, 1}, {0, Clocks.MIN, 1, 1},
            {0, Clocks.MAX, 1, 1}};
        for (int[] call : wrong) {
            Checks.refused(clock, "want(" + call[0] + ", " + call[1] + ", " + call[2] + ", " + call[3] + ")", -1,
                () -> clock.want(call[0], call[1], call[2], call[3]));
        }
    }

    private static void promise7WhatItWas() {
        Checks.holds(7, "CREDIT of a BUYER becomes so much: what it was.");
        FlowerClock clock = Clocks.of(1);
        clock.buyer(1000000);
        clock.buyer(0);
        Checks.same("the most", clock.credit(0, 0), 1000000);
        Checks.same("the least", clock.credit(0, 1000000), 0);
        Clocks.buy(clock, 0, 10, 99);
        Checks.same("less what was paid", clock.credit(0, 1000000), 999010);
        clock.claim(0, 10);
        Checks.same("above the most, by a CLAIM", clock.credit(0, 3), 1000990);
        Checks.same("CREDIT of the other", clock.about(1, 0), 0);
        Checks.holds(7, "-1");
        Checks.refused(clock, "credit(-1, 0)", -1, () -> clock.credit(-1, 0));
        Checks.refused(clock, "credit(2, 0)", -1, () -> clock.credit(2, 0));
        Checks.refused(clock, "credit(MAX, 0)", -1, () -> clock.credit(Clocks.MAX, 0));
        Checks.refused(clock, "credit(0, -1)", -1, () -> clock.credit(0, -1));
        Checks.refused(clock, "credit(0, 1000001)", -1, () -> clock.credit(0, 1000001));
    }

    private static void promise8Worth() {
        Checks.holds(8, "WORTH of a LOT to a BUYER.");
        FlowerClock clock = Clocks.of(1, 0, 0, 20, 0, 0, 30);
        clock.lot(0, 5, 99, 0);
        clock.lot(300, 5, 99, 2);
        clock.lot(10, 5, 99, 2);
        int[][] due = {{20, 25, 0}, {30, 35, 0}};
        for (int buyer = 0; buyer < 2; buyer++) {
            for (int lot = 0; lot < 3; lot++) {
                Checks.same("worth(" + buyer + ", " + lot + ")", clock.worth(buyer, lot), due[buyer][lot]);
            }
        }
        clock.sell(0);
        clock.close();
        Checks.same("of a LOT without stems", clock.worth(0, 0), 20);
        Checks.holds(8, "-1");
        int[][] wrong = {{-1, 0}, {2, 0}, {0, -1}, {0, 3}, {Clocks.MIN, 0}, {Clocks.MAX, 0}, {0, Clocks.MIN},
            {0, Clocks.MAX}};
        for (int[] call : wrong) {
            Checks.refused(clock, "worth(" + call[0] + ", " + call[1] + ")", -1, () -> clock.worth(call[0], call[1]));
        }
    }

    private static void lookIs(FlowerClock clock, int lot, int what, int due) {
        Checks.same("look(" + lot + ", " + what + ")", clock.look(lot, what), due);
    }

    private static void promise9Look() {
        Checks.holds(9, "Of a LOT: 0 KIND, 1 GROWER, 2 SORT, 3 stems that are left, 4 LEAST");
        FlowerClock clock = Clocks.of(10, 1000, 3, 50);
        clock.lot(0, 1, 0, 0);
        clock.lot(259, 1000, 99, 1);
        clock.lot(300, 5, 10, 0);
        int[][] due = {{0, 0, 0, 1, 0}, {2, 9, 5, 1000, 99}, {3, 0, 0, 5, 10}};
        for (int lot = 0; lot < 3; lot++) {
            for (int what = 0; what <= 4; what++) {
                lookIs(clock, lot, what, due[lot][what]);
            }
        }
        clock.sell(2);
        lookIs(clock, 2, 3, 2);
        clock.sell(0);
        lookIs(clock, 0, 3, 1);
        clock.close();
        lookIs(clock, 2, 3, 0);
        lookIs(clock, 0, 3, 0);
        lookIs(clock, 1, 3, 1000);
        lookIs(clock, 2, 4, 10);
        Checks.holds(9, "-1");
        int[][] wrong = {{-1, 0}, {3, 0}, {0, -1}, {0, 9}, {Clocks.MIN, 0}, {Clocks.MAX, 0}, {0, Clocks.MIN},
            {0, Clocks.MAX}};
        for (int[] call : wrong) {
            Checks.refused(clock, "look(" + call[0] + ", " + call[1] + ")", -1, () -> clock.look(call[0], call[1]));
        }
    }

    private static void promise9MarkOrDay() {
        Checks.holds(9, "5 MARK or DAY (-2: none)");
        FlowerClock clock = Clocks.of(1);
        int[][] extras = {{0, 3, -2}, {100, 1, 1}, {100, 3, 3}, {200, 1, 1}, {200, 3, 3}, {300, 0, 0},
            {300, 1000, 1000}};
        for (int[] extra : extras) {
            lookIs(clock, clock.lot(extra[0], 5, 0, extra[1]), 5, extra[2]);
        }
    }

    private static void promise9Found() {
        Checks.holds(9, "6 FOUND (-2)");
        FlowerClock clock = Clocks.of(1);
        for (int kind = 0; kind <= 3; kind++) {
            clock.lot(100 * kind, 5, 0, 1);
            lookIs(clock, kind, 6, -2);
        }
        clock.found(1, 0);
        clock.found(2, 3);
        lookIs(clock, 1, 6, 0);
        lookIs(clock, 2, 6, 3);
        clock.close();
        lookIs(clock, 1, 6, 0);
    }

    private static void promise9Offered() {
        Checks.holds(9, "7 whether it was OFFERED on THE DAY");
        FlowerClock clock = Clocks.of(1, 1000, 3, 50);
        clock.lot(200, 5, 0, 1);
        clock.lot(200, 5, 99, 1);
        clock.lot(0, 5, 0, 1);
        lookIs(clock, 0, 7, 0);
        clock.sell(0);
        clock.sell(1);
        lookIs(clock, 0, 7, 1);
        lookIs(clock, 1, 7, 1);
        lookIs(clock, 2, 7, 0);
        clock.close();
        lookIs(clock, 0, 7, 0);
        lookIs(clock, 1, 7, 0);
        clock.round(0);
        for (int lot = 0; lot < 3; lot++) {
            lookIs(clock, lot, 7, 1);
        }
        clock.would(0);
        lookIs(clock, clock.lot(0, 5, 0, 0), 7, 0);
        clock.would(0);
        lookIs(clock, 3, 7, 0);
    }

    private static void promise9Sold() {
        Checks.holds(9, "8 stems that were sold (on all DAYS, of CLAIMS, too).");
        FlowerClock clock = Clocks.of(1, 1000, 3, 50, 1000, 4, 40);
        clock.lot(200, 9, 0, 1);
        lookIs(clock, 0, 8, 0);
        clock.sell(0);
        lookIs(clock, 0, 8, 7);
        clock.claim(0, 3);
        lookIs(clock, 0, 8, 7);
        lookIs(clock, 0, 3, 2);
        clock.close();
        clock.want(0, 0, 1, 50);
        clock.sell(0);
        lookIs(clock, 0, 8, 8);
        clock.lot(0, 9, 0, 0);
        clock.sell(1);
        clock.close();
        lookIs(clock, 1, 8, 0);
        lookIs(clock, 1, 3, 0);
    }

    private static void promise10About() {
        Checks.holds(10, "Of a BUYER: 0 CREDIT, 1 BOUGHT, 2 + s its WANT of SORT s, 8 + s its LIMIT.");
        FlowerClock clock = Clocks.of(1);
        clock.buyer(5);
        clock.buyer(1000000);
        for (int what = 1; what <= 13; what++) {
            Checks.same("about(0, " + what + ") at first", clock.about(0, what), 0);
        }
        for (int sort = 0; sort < 6; sort++) {
            clock.want(1, sort, 100 + sort, 90 + sort);
        }
        clock.lot(50, 5, 0, 0);
        clock.sell(0);
        int[] due = {1000000 - 5 * 95, 5, 100, 101, 102, 103, 104, 100, 90, 91, 92, 93, 94, 95};
        for (int what = 0; what <= 13; what++) {
            Checks.same("about(1, " + what + ")", clock.about(1, what), due[what]);
        }
        Checks.same("CREDIT of the other", clock.about(0, 0), 5);
        Checks.holds(10, "-1");
        int[][] wrong = {{-1, 0}, {2, 0}, {0, -1}, {0, 14}, {Clocks.MIN, 0}, {Clocks.MAX, 0}, {0, Clocks.MIN},
            {0, Clocks.MAX}};
        for (int[] call : wrong) {
            Checks.refused(clock, "about(" + call[0] + ", " + call[1] + ")", -1, () -> clock.about(call[0], call[1]));
        }
    }

    private static void promise11Takings() {
        Checks.holds(11, "TAKINGS of a GROWER.");
        FlowerClock clock = Clocks.of(2, 1000000, 1000, 99);
        Checks.same("of nothing", clock.takings(0), 0);
        clock.lot(1, 1000, 0, 0);
        clock.sell(0);
        Checks.same("of what was sold", clock.takings(1), 99000);
        Checks.same("of the other", clock.takings(0), 0);
        clock.close();
        Checks.same("of all DAYS", clock.takings(1), 99000);
        clock.claim(0, 1000);
        Checks.same("less a CLAIM of all", clock.takings(1), 0);
        Checks.holds(11, "IllegalArgumentException: no such.");
        for (int grower : new int[] {-1, 2, 9, 10, Clocks.MIN, Clocks.MAX}) {
            Checks.thrown(clock, "takings(" + grower + ")", IllegalArgumentException.class,
                () -> clock.takings(grower));
        }
    }
}
