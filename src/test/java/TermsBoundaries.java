/** The edges that the terms name for GROWERS, LOTS, BUYERS and WORTH: a method for each sentence. */
final class TermsBoundaries {
    private TermsBoundaries() {
    }

    static void run() {
        growersComeAsTen();
        dueIsWithinHundredths();
        lotsComeAsForty();
        kindsAreFour();
        markIsOneToThree();
        feastDayIsZeroToThousand();
        lotIsOfAGrowerThatCame();
        sortIsZeroToFive();
        stemsAreOneToThousand();
        leastIsZeroTo99();
        foundIsZeroToThree();
        buyersComeAsTwelve();
        creditIsZeroToMillion();
        wantIsZeroToThousand();
        limitIsZeroTo99();
        worthBeginsWithLimitOfTheSort();
        worthLosesTenForEachStep();
        worthLosesNothingUnlessFound();
        worthOfCooledIsThreeMore();
        worthOfFeastIsFiveMoreOnThreeDays();
        worthBelowZeroIsZero();
        worthAbove99Is99();
        theDayIsZeroAtFirst();
    }

    /** A clock with one grower and one buyer, whose limit for sort 0 is told. */
    private static FlowerClock withLimit(int limit) {
        return Clocks.of(1, 1000, 5, limit);
    }

    private static void growersComeAsTen() {
        Checks.holds(0, "GROWERS 0 .. 9 as they come");
        FlowerClock clock = new FlowerClock();
        Checks.same("no grower yet", clock.count(0), 0);
        for (int i = 0; i <= 9; i++) {
            Checks.same("grower", clock.grower(100 - i), i);
        }
        Checks.refused(clock, "an eleventh", -2, () -> clock.grower(0));
        Checks.same("count(0)", clock.count(0), 10);
        Checks.same("a lot of the first", clock.lot(0, 1, 0, 0), 0);
        Checks.same("a lot of the last", clock.lot(9, 1, 0, 0), 1);
        Checks.same("takings of the last", clock.takings(9), 0);
    }

    private static void dueIsWithinHundredths() {
        Checks.holds(0, "each with a DUE (0 .. 100 hundredths)");
        FlowerClock clock = new FlowerClock();
        for (int due : new int[] {-1, 101, Clocks.MIN, Clocks.MAX}) {
            Checks.refused(clock, "grower(" + due + ")", -1, () -> clock.grower(due));
        }
        Checks.same("grower(0)", clock.grower(0), 0);
        Checks.same("grower(100)", clock.grower(100), 1);
        clock.buyer(1000);
        clock.want(0, 0, 4, 50);
        clock.lot(0, 2, 0, 0);
        clock.lot(1, 2, 0, 0);
        clock.round(0);
        Checks.same("takings at a due of 0", clock.takings(0), 100);
        Checks.same("takings at a due of 100", clock.takings(1), 0);
    }

    private static void lotsComeAsForty() {
        Checks.holds(0, "LOTS 0 .. 39 as they come");
        FlowerClock clock = Clocks.of(1);
        for (int i = 0; i <= 39; i++) {
            Checks.same("lot", clock.lot(i % 4 * 100, 1 + i, 0, 1), i);
        }
        Checks.refused(clock, "a forty-first", -2, () -> clock.lot(0, 1, 0, 0));
        Checks.same("stems of the first", clock.look(0, 3), 1);
        Checks.same("stems of the last", clock.look(39, 3), 40);
        Checks.same("sell the last", clock.sell(39), 0);
        Checks.same("no lot 40", clock.look(40, 3), -1);
    }

    private static void kindsAreFour() {
        Checks.holds(0, "of KINDS: 0 PLAIN; 1 MARKED under PLAIN");
        Checks.holds(0, "2 COOLED under MARKED; 3 FEAST under PLAIN");
        FlowerClock clock = Clocks.of(1);
        for (int kind = 0; kind <= 3; kind++) {
            clock.lot(100 * kind, 5, 0, 2);
            Checks.same("kind", clock.look(kind, 0), kind);
            Checks.same("MARK or DAY", clock.look(kind, 5), kind == 0 ? -2 : 2);
            boolean marked = kind == 1 || kind == 2;
            Checks.same("found of kind " + kind, clock.found(kind, 1), marked ? -2 : -3);
        }
        Checks.refused(clock, "kind 4", -1, () -> clock.lot(400, 5, 0, 1));
        Checks.refused(clock, "kind below 0", -1, () -> clock.lot(-100, 5, 0, 1));
        Checks.refused(clock, "told as -1", -1, () -> clock.lot(-1, 5, 0, 1));
        Checks.refused(clock, "told as MAX", -1, () -> clock.lot(Clocks.MAX, 5, 0, 1));
        Checks.refused(clock, "told as MIN", -1, () -> clock.lot(Clocks.MIN, 5, 0, 1));
        Checks.refused(clock, "kind 10", -1, () -> clock.lot(1000, 5, 0, 1));
        // Of 256 kinds more the last byte is 0.
        Checks.refused(clock, "kind 256", -1, () -> clock.lot(25600, 5, 0, 1));
    }

    private static void markIsOneToThree() {
        Checks.holds(0, "(MARK 1 .. 3)");
        FlowerClock clock = Clocks.of(1);
        for (int told : new int[] {100, 200}) {
            for (int mark : new int[] {0, 4, -1, Clocks.MIN, Clocks.MAX}) {
                Checks.refused(clock, "lot(" + told + ", .., " + mark + ")", -1, () -> clock.lot(told, 5, 0, mark));
            }
            for (int mark = 1; mark <= 3; mark++) {
                Checks.same("MARK", clock.look(clock.lot(told, 5, 0, mark), 5), mark);
            }
        }
    }

    private static void feastDayIsZeroToThousand() {
        Checks.holds(0, "(a DAY 0 .. 1000)");
        FlowerClock clock = Clocks.of(1);
        for (int day : new int[] {-1, 1001, Clocks.MIN, Clocks.MAX}) {
            Checks.refused(clock, "lot(300, .., " + day + ")", -1, () -> clock.lot(300, 5, 0, day));
        }
        Checks.same("DAY 0", clock.look(clock.lot(300, 5, 0, 0), 5), 0);
        Checks.same("DAY 1000", clock.look(clock.lot(300, 5, 0, 1000), 5), 1000);
    }

    private static void lotIsOfAGrowerThatCame() {
        Checks.holds(0, "each of a GROWER");
        FlowerClock clock = new FlowerClock();
        Checks.refused(clock, "a lot when none came", -1, () -> clock.lot(0, 5, 0, 0));
        clock.grower(0);
        clock.grower(0);
        Checks.same("the last that came", clock.look(clock.lot(1, 5, 0, 0), 1), 1);
        Checks.refused(clock, "the one behind", -1, () -> clock.lot(2, 5, 0, 0));
        Checks.refused(clock, "grower 9", -1, () -> clock.lot(9, 5, 0, 0));
    }

    private static void sortIsZeroToFive() {
        Checks.holds(0, "a SORT 0 .. 5");
        FlowerClock clock = Clocks.of(1, 1000, 5, 10);
        Checks.same("sort 0", clock.look(clock.lot(0, 5, 0, 0), 2), 0);
        Checks.same("sort 5", clock.look(clock.lot(50, 5, 0, 0), 2), 5);
        Checks.same("sort 5 of a feast", clock.look(clock.lot(350, 5, 0, 0), 2), 5);
        Checks.refused(clock, "lot of sort 6", -1, () -> clock.lot(60, 5, 0, 0));
        Checks.refused(clock, "lot of sort 9", -1, () -> clock.lot(190, 5, 0, 1));
        Checks.refused(clock, "want of sort 6", -1, () -> clock.want(0, 6, 1, 1));
        Checks.refused(clock, "want of sort -1", -1, () -> clock.want(0, -1, 1, 1));
        Checks.same("want of sort 5", clock.want(0, 5, 1, 1), 0);
    }

    private static void stemsAreOneToThousand() {
        Checks.holds(0, "so many STEMS (1 .. 1000)");
        FlowerClock clock = Clocks.of(1, 1000000, 1000, 99);
        for (int stems : new int[] {0, -1, 1001, Clocks.MIN, Clocks.MAX}) {
            Checks.refused(clock, "lot of " + stems, -1, () -> clock.lot(0, stems, 0, 0));
        }
        Checks.same("lot of 1", clock.look(clock.lot(0, 1, 0, 0), 3), 1);
        Checks.same("lot of 1000", clock.look(clock.lot(0, 1000, 0, 0), 3), 1000);
        Checks.same("sell 1000", clock.sell(1), 1000);
        Checks.same("sell 1 to nobody who wants", clock.sell(0), 0);
    }

    private static void leastIsZeroTo99() {
        Checks.holds(0, "a LEAST price (0 .. 99 cents a stem)");
        FlowerClock clock = Clocks.of(1, 1000, 2, 99);
        for (int least : new int[] {-1, 100, Clocks.MIN, Clocks.MAX}) {
            Checks.refused(clock, "least " + least, -1, () -> clock.lot(0, 5, least, 0));
        }
        Checks.same("least 99", clock.look(clock.lot(0, 1, 99, 0), 4), 99);
        Checks.same("least 0", clock.look(clock.lot(0, 1, 0, 0), 4), 0);
        Checks.same("sell at least 99", clock.sell(0), 1);
        Clocks.paymentIs(clock, 0, 0, 0, 1, 99);
    }

    private static void foundIsZeroToThree() {
        Checks.holds(0, "Of a MARKED (or COOLED) one a quality can be FOUND (0 .. 3).");
        FlowerClock clock = Clocks.of(1);
        clock.lot(100, 5, 0, 1);
        clock.lot(200, 5, 0, 1);
        for (int lot = 0; lot < 2; lot++) {
            int of = lot;
            for (int quality : new int[] {-1, -2, 4, Clocks.MIN, Clocks.MAX}) {
                Checks.refused(clock, "found(" + lot + ", " + quality + ")", -1, () -> clock.found(of, quality));
            }
            Checks.same("quality 3, above the MARK", clock.found(lot, 3), -2);
            Checks.same("quality 0", clock.found(lot, 0), 3);
            Checks.same("FOUND", clock.look(lot, 6), 0);
        }
    }

    private static void buyersComeAsTwelve() {
        Checks.holds(0, "BUYERS 0 .. 11 as they come (their number is their SEAT)");
        FlowerClock clock = Clocks.of(1);
        for (int i = 0; i <= 11; i++) {
            Checks.same("seat", clock.buyer(10), i);
        }
        Checks.refused(clock, "a thirteenth", -2, () -> clock.buyer(10));
        Checks.same("no buyer 12", clock.about(12, 0), -1);
        clock.want(11, 0, 1, 10);
        clock.lot(0, 1, 0, 0);
        Checks.same("the last one buys", clock.sell(0), 1);
        Clocks.paymentIs(clock, 0, 11, 0, 1, 10);
    }

    private static void creditIsZeroToMillion() {
        Checks.holds(0, "each with CREDIT (0 .. 1000000 cents)");
        FlowerClock clock = Clocks.of(1);
        for (int credit : new int[] {-1, 1000001, Clocks.MIN, Clocks.MAX}) {
            Checks.refused(clock, "buyer(" + credit + ")", -1, () -> clock.buyer(credit));
        }
        Checks.same("buyer(0)", clock.buyer(0), 0);
        Checks.same("buyer(1000000)", clock.buyer(1000000), 1);
        for (int credit : new int[] {-1, 1000001, Clocks.MIN, Clocks.MAX}) {
            Checks.refused(clock, "credit(0, " + credit + ")", -1, () -> clock.credit(0, credit));
        }
        Checks.same("credit(0, 1000000)", clock.credit(0, 1000000), 0);
        Checks.same("credit(1, 0)", clock.credit(1, 0), 1000000);
    }

    private static void wantIsZeroToThousand() {
        Checks.holds(0, "and for each SORT a WANT (stems, 0 .. 1000; 0 at first)");
        FlowerClock clock = new FlowerClock();
        clock.buyer(10);
        for (int sort = 0; sort < 6; sort++) {
            int of = sort;
            Checks.same("WANT at first", clock.about(0, 2 + sort), 0);
            Checks.refused(clock, "want -1", -1, () -> clock.want(0, of, -1, 0));
            Checks.refused(clock, "want 1001", -1, () -> clock.want(0, of, 1001, 0));
            Checks.same("want 1000", clock.want(0, sort, 1000, 0), 0);
            Checks.same("want 0", clock.want(0, sort, 0, 0), 1000);
        }
        Checks.refused(clock, "want MIN", -1, () -> clock.want(0, 0, Clocks.MIN, 0));
        Checks.refused(clock, "want MAX", -1, () -> clock.want(0, 0, Clocks.MAX, 0));
        Checks.same("nobody who wants 0 would buy", clock.foretold(0), -2);
    }

    private static void limitIsZeroTo99() {
        Checks.holds(0, "and a LIMIT (0 .. 99 cents; 0 at first)");
        FlowerClock clock = new FlowerClock();
        clock.buyer(1000);
        for (int sort = 0; sort < 6; sort++) {
            int of = sort;
            Checks.same("LIMIT at first", clock.about(0, 8 + sort), 0);
            Checks.refused(clock, "limit -1", -1, () -> clock.want(0, of, 1, -1));
            Checks.refused(clock, "limit 100", -1, () -> clock.want(0, of, 1, 100));
            clock.want(0, sort, 1, 99);
            Checks.same("LIMIT", clock.about(0, 8 + sort), 99);
            clock.want(0, sort, 1, 0);
            Checks.same("LIMIT", clock.about(0, 8 + sort), 0);
            Checks.same("who limits by 0 buys at 0", clock.foretold(sort), 0);
        }
        Checks.refused(clock, "limit MIN", -1, () -> clock.want(0, 0, 1, Clocks.MIN));
        Checks.refused(clock, "limit MAX", -1, () -> clock.want(0, 0, 1, Clocks.MAX));
    }

    private static void worthBeginsWithLimitOfTheSort() {
        Checks.holds(0, "WORTH of a LOT to a BUYER: its LIMIT for the SORT, and:");
        FlowerClock clock = Clocks.of(1, 0, 0, 0);
        for (int sort = 0; sort < 6; sort++) {
            clock.want(0, sort, 0, 40 + sort);
            clock.lot(10 * sort, 5, 90, 0);
        }
        for (int sort = 0; sort < 6; sort++) {
            Checks.same("WORTH, whatever WANT, CREDIT and LEAST are", clock.worth(0, sort), 40 + sort);
        }
        clock.want(0, 0, 0, 0);
        Checks.same("WORTH at a LIMIT of 0", clock.worth(0, 0), 0);
        clock.want(0, 0, 0, 99);
        Checks.same("WORTH at a LIMIT of 99", clock.worth(0, 0), 99);
    }

    private static void worthLosesTenForEachStep() {
        Checks.holds(0, "of MARKED, COOLED ones 10 less for each step that FOUND is below MARK");
        FlowerClock clock = withLimit(50);
        for (int mark = 1; mark <= 3; mark++) {
            int marked = clock.lot(100, 5, 0, mark);
            int cooled = clock.lot(200, 5, 0, mark);
            for (int quality = 0; quality <= 3; quality++) {
                clock.found(marked, quality);
                clock.found(cooled, quality);
                int steps = quality < mark ? mark - quality : 0;
                Checks.same("MARK " + mark + ", FOUND " + quality, clock.worth(0, marked), 50 - 10 * steps);
                Checks.same("cooled, " + mark + ", FOUND " + quality, clock.worth(0, cooled), 53 - 10 * steps);
            }
        }
    }

    private static void worthLosesNothingUnlessFound() {
        Checks.holds(0, "(none, if nothing was FOUND)");
        FlowerClock clock = withLimit(50);
        clock.lot(100, 5, 0, 3);
        clock.lot(200, 5, 0, 3);
        Checks.same("WORTH of a marked one", clock.worth(0, 0), 50);
        Checks.same("WORTH of a cooled one", clock.worth(0, 1), 53);
        clock.found(0, 0);
        Checks.same("WORTH once 0 was FOUND", clock.worth(0, 0), 20);
        Checks.same("WORTH of the other", clock.worth(0, 1), 53);
    }

    private static void worthOfCooledIsThreeMore() {
        Checks.holds(0, "of COOLED ones 3 more");
        FlowerClock clock = withLimit(0);
        clock.lot(200, 5, 0, 1);
        clock.lot(100, 5, 0, 1);
        clock.lot(300, 5, 0, 9);
        Checks.same("WORTH of a cooled one at a LIMIT of 0", clock.worth(0, 0), 3);
        Checks.same("WORTH of a marked one", clock.worth(0, 1), 0);
        Checks.same("WORTH of a feast to come later", clock.worth(0, 2), 0);
    }

    private static void worthOfFeastIsFiveMoreOnThreeDays() {
        Checks.holds(0, "of FEAST ones 5 more, if its DAY is THE DAY or one of the two DAYS to come");
        FlowerClock clock = withLimit(40);
        for (int day = 0; day <= 6; day++) {
            clock.lot(300, 5, 0, day);
        }
        for (int today = 0; today <= 4; today++) {
            for (int day = 0; day <= 6; day++) {
                boolean near = day == today || day == today + 1 || day == today + 2;
                Checks.same("feast on " + day + ", THE DAY " + today, clock.worth(0, day), near ? 45 : 40);
            }
            clock.close();
        }
        FlowerClock late = withLimit(40);
        late.lot(300, 5, 0, 1000);
        for (int today = 0; today <= 1000; today++) {
            if (today == 997 || today == 998 || today == 1000) {
                Checks.same("feast on 1000, THE DAY " + today, late.worth(0, 0), today == 997 ? 40 : 45);
            }
            late.close();
        }
    }

    private static void worthBelowZeroIsZero() {
        Checks.holds(0, "all together 0 if that is below 0");
        FlowerClock clock = withLimit(30);
        clock.lot(100, 5, 0, 3);
        clock.lot(200, 5, 0, 3);
        clock.found(0, 0);
        clock.found(1, 0);
        int[] limits = {31, 30, 29, 28, 27, 26, 25, 0};
        int[] marked = {1, 0, 0, 0, 0, 0, 0, 0};
        int[] cooled = {4, 3, 2, 1, 0, 0, 0, 0};
        for (int i = 0; i < limits.length; i++) {
            clock.want(0, 0, 1, limits[i]);
            Checks.same("marked, LIMIT " + limits[i], clock.worth(0, 0), marked[i]);
            Checks.same("cooled, LIMIT " + limits[i], clock.worth(0, 1), cooled[i]);
        }
        Checks.same("sold at 0 where WORTH would be below it", clock.sell(0), 1);
        Clocks.paymentIs(clock, 0, 0, 0, 1, 0);
    }

    private static void worthAbove99Is99() {
        Checks.holds(0, "99 if above");
        FlowerClock clock = withLimit(30);
        clock.lot(200, 5, 0, 1);
        clock.lot(300, 5, 0, 0);
        int[] limits = {93, 94, 95, 96, 97, 99};
        int[] cooled = {96, 97, 98, 99, 99, 99};
        int[] feast = {98, 99, 99, 99, 99, 99};
        for (int i = 0; i < limits.length; i++) {
            clock.want(0, 0, 1, limits[i]);
            Checks.same("cooled, LIMIT " + limits[i], clock.worth(0, 0), cooled[i]);
            Checks.same("feast, LIMIT " + limits[i], clock.worth(0, 1), feast[i]);
        }
        clock.found(0, 0);
        Checks.same("cooled, all together below 99", clock.worth(0, 0), 92);
        // Both are worth 99 then: the tie goes by the seat, not by what the WORTH would be above 99.
        FlowerClock tie = Clocks.of(1, 1000, 1, 95, 1000, 1, 99);
        tie.lot(300, 1, 0, 0);
        tie.sell(0);
        Clocks.paymentIs(tie, 0, 0, 0, 1, 99);
    }

    private static void theDayIsZeroAtFirst() {
        Checks.holds(0, "THE DAY is 0 at first.");
        FlowerClock clock = withLimit(50);
        Checks.same("THE DAY", clock.count(3), 0);
        clock.lot(300, 5, 0, 0);
        Checks.same("a feast of DAY 0 is near", clock.worth(0, 0), 55);
        clock.sell(0);
        Checks.same("DAY of the first payment", clock.payment(0, 4), 0);
        Checks.same("what was paid on it", clock.bill(0, 0), 275);
    }
}
