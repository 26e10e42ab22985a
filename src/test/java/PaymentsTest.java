/** Promises 19 to 30. */
public final class PaymentsTest {
    public static void main(String[] args) {
        promise19Payment();
        promise19Refusals();
        promise20Claim();
        promise20CreditAboveItsRange();
        promise20Refusals();
        promise21Cart();
        promise21Refusals();
        promise22Dock();
        promise22Refusals();
        promise23Bill();
        promise23Refusals();
        promise24Count();
        promise25Keep();
        promise25KeepIsACopy();
        promise25Refusals();
        promise26Make();
        promise26Refusals();
        promise27Element();
        promise27Refusals();
        promise28Copy();
        promise28CopyOnItself();
        promise28Refusals();
        promise29Weight();
        promise29Refusals();
        promise30Toss();
        promise30Refusals();
        Checks.end("PaymentsTest");
    }

    /** One grower with a due of 10, and so many buyers with credit, who want 1000 of sort 0 at 20. */
    private static FlowerClock clockOf(int buyers) {
        FlowerClock clock = new FlowerClock();
        clock.grower(10);
        for (int buyer = 0; buyer < buyers; buyer++) {
            clock.buyer(1000000);
            clock.want(buyer, 0, 1000, 20);
        }
        return clock;
    }

    /** Seat buys so many stems of a new lot, at 50. */
    private static void buy(FlowerClock clock, int seat, int stems) {
        clock.want(seat, 5, stems, 50);
        clock.sell(clock.lot(50, stems, 50, 0));
    }

    private static void promise19Payment() {
        FlowerClock clock = clockOf(2);
        buy(clock, 1, 7);
        clock.close();
        buy(clock, 0, 8);
        clock.claim(1, 3);
        int[][] due = {{1, 0, 7, 50, 0, 0}, {0, 1, 8, 50, 1, 3}};
        for (int k = 0; k < 2; k++) {
            for (int what = 0; what <= 5; what++) {
                Checks.same("payment(" + k + ", " + what + ")", clock.payment(k, what), due[k][what]);
            }
        }
    }

    private static void promise19Refusals() {
        FlowerClock clock = clockOf(2);
        buy(clock, 1, 7);
        Checks.refused(clock, "payment(-1, 0)", -1, () -> clock.payment(-1, 0));
        Checks.refused(clock, "payment(1, 0)", -1, () -> clock.payment(1, 0));
        Checks.refused(clock, "payment(0, -1)", -1, () -> clock.payment(0, -1));
        Checks.refused(clock, "payment(0, 6)", -1, () -> clock.payment(0, 6));
    }

    private static void promise20Claim() {
        FlowerClock clock = clockOf(2);
        buy(clock, 1, 7);
        buy(clock, 0, 8);
        clock.close();
        Checks.same("takings(0)", clock.takings(0), 315 + 360);
        Checks.same("claim(0, 7) of all stems, later", clock.claim(0, 7), 350);
        Checks.same("credit", clock.about(1, 0), 1000000);
        Checks.same("takings(0)", clock.takings(0), 360);
        Checks.same("claim(1, 1)", clock.claim(1, 1), 50);
        Checks.same("takings(0)", clock.takings(0), 360 - 45);
        Checks.same("count(6)", clock.count(6), 2);
        Checks.same("bought", clock.about(1, 1), 0);
        Checks.same("payment(0, 5)", clock.payment(0, 5), 7);
    }

    private static void promise20CreditAboveItsRange() {
        FlowerClock clock = clockOf(1);
        buy(clock, 0, 7);
        clock.credit(0, 1000000);
        Checks.same("claim(0, 2)", clock.claim(0, 2), 100);
        Checks.same("credit above 1000000", clock.about(0, 0), 1000100);
        Checks.same("credit(0, 5)", clock.credit(0, 5), 1000100);
    }

    private static void promise20Refusals() {
        FlowerClock clock = clockOf(1);
        buy(clock, 0, 7);
        buy(clock, 0, 7);
        clock.claim(1, 2);
        Checks.refused(clock, "claim(-1, 1)", -1, () -> clock.claim(-1, 1));
        Checks.refused(clock, "claim(2, 1)", -1, () -> clock.claim(2, 1));
        Checks.refused(clock, "claim(0, 0)", -1, () -> clock.claim(0, 0));
        Checks.refused(clock, "claim(0, -1)", -1, () -> clock.claim(0, -1));
        Checks.refused(clock, "claim(1, 0) of one that has it", -1, () -> clock.claim(1, 0));
        Checks.refused(clock, "claim(0, 8)", -3, () -> clock.claim(0, 8));
        Checks.refused(clock, "claim(1, 1) of one that has it", -3, () -> clock.claim(1, 1));
        Checks.refused(clock, "claim(0, MAX)", -3, () -> clock.claim(0, Integer.MAX_VALUE));
    }

    private static void promise21Cart() {
        FlowerClock clock = clockOf(9);
        buy(clock, 0, 40);
        buy(clock, 1, 41);
        buy(clock, 4, 1);
        buy(clock, 5, 80);
        buy(clock, 8, 100);
        int[] due = {1, 2, 2, 4, 5};
        for (int k = 0; k < 5; k++) {
            Checks.same("cart(" + k + ")", clock.cart(k), due[k]);
        }
        clock.claim(1, 41);
        Checks.same("cart(3), claims or not", clock.cart(3), 4);
        clock.close();
        buy(clock, 0, 39);
        Checks.same("cart(5) on the day after", clock.cart(5), 1);
    }

    private static void promise21Refusals() {
        FlowerClock clock = clockOf(2);
        buy(clock, 0, 40);
        Checks.refused(clock, "cart(-1)", -1, () -> clock.cart(-1));
        Checks.refused(clock, "cart(1)", -1, () -> clock.cart(1));
        clock.close();
        Checks.refused(clock, "cart(0) on the day after", -3, () -> clock.cart(0));
    }

    private static void promise22Dock() {
        FlowerClock clock = clockOf(9);
        buy(clock, 0, 40);
        buy(clock, 3, 121);
        buy(clock, 4, 1);
        buy(clock, 8, 80);
        int[] due = {4, 0, 0, 4};
        for (int dock = 0; dock < 4; dock++) {
            Checks.same("dock(" + dock + ")", clock.dock(dock), due[dock]);
        }
        clock.claim(0, 40);
        Checks.same("dock(0), claims or not", clock.dock(0), 4);
        clock.close();
        Checks.same("dock(0) on the day after", clock.dock(0), 0);
    }

    private static void promise22Refusals() {
        FlowerClock clock = clockOf(2);
        Checks.refused(clock, "dock(-1)", -1, () -> clock.dock(-1));
        Checks.refused(clock, "dock(4)", -1, () -> clock.dock(4));
    }

    private static void promise23Bill() {
        FlowerClock clock = clockOf(2);
        buy(clock, 0, 10);
        buy(clock, 1, 20);
        buy(clock, 0, 30);
        clock.close();
        buy(clock, 0, 5);
        Checks.same("bill(0, 0)", clock.bill(0, 0), 2000);
        Checks.same("bill(1, 0)", clock.bill(1, 0), 1000);
        Checks.same("bill(0, 1)", clock.bill(0, 1), 250);
        clock.claim(2, 4);
        Checks.same("bill(0, 0), a claim told later", clock.bill(0, 0), 1800);
        Checks.same("bill(0, 1), that claim isn't its own", clock.bill(0, 1), 250);
        Checks.same("bill(0, 1000)", clock.bill(0, 1000), 0);
    }

    private static void promise23Refusals() {
        FlowerClock clock = clockOf(2);
        Checks.thrown(clock, "bill(-1, 0)", IllegalArgumentException.class, () -> clock.bill(-1, 0));
        Checks.thrown(clock, "bill(2, 0)", IllegalArgumentException.class, () -> clock.bill(2, 0));
        Checks.thrown(clock, "bill(0, -1)", IllegalArgumentException.class, () -> clock.bill(0, -1));
        Checks.thrown(clock, "bill(0, 1001)", IllegalArgumentException.class, () -> clock.bill(0, 1001));
    }

    private static void promise24Count() {
        FlowerClock clock = clockOf(3);
        clock.grower(0);
        clock.lot(0, 5, 99, 0);
        clock.lot(0, 6, 99, 0);
        clock.sell(0);
        clock.close();
        buy(clock, 0, 10);
        buy(clock, 0, 10);
        buy(clock, 0, 10);
        clock.claim(1, 1);
        clock.claim(2, 1);
        clock.lot(0, 7, 99, 0);
        clock.sell(clock.lot(200, 7, 99, 1));
        int[] due = {2, 7, 3, 1, 3, 5, 2, 2};
        for (int what = 0; what <= 7; what++) {
            Checks.same("count(" + what + ")", clock.count(what), due[what]);
        }
        clock.close();
        Checks.same("count(7) on the day after", clock.count(7), 3);
        Checks.refused(clock, "count(-1)", -1, () -> clock.count(-1));
        Checks.refused(clock, "count(8)", -1, () -> clock.count(8));
    }

    private static void promise25Keep() {
        FlowerClock clock = clockOf(2);
        clock.grower(0);
        for (int sort = 0; sort < 6; sort++) {
            clock.want(1, sort, 100 + sort, 50 + sort);
        }
        buy(clock, 0, 10);
        Checks.same("keep(7, 3, 1)", clock.keep(7, 3, 1), 0);
        for (int sort = 0; sort < 6; sort++) {
            Checks.same("want of sort " + sort, clock.element(7, sort), 100 + sort - (sort == 5 ? 10 : 0));
            Checks.same("limit of sort " + sort, clock.element(7, 6 + sort), 50 + sort);
        }
        Checks.thrown(clock, "element(7, 12)", IllegalStateException.class, () -> clock.element(7, 12));
        Checks.same("keep(0, 4, -9), k doesn't matter", clock.keep(0, 4, -9), 0);
        Checks.same("takings of 0", clock.element(0, 0), clock.takings(0));
        Checks.same("takings of 1", clock.element(0, 1), 0);
        Checks.thrown(clock, "element(0, 2)", IllegalStateException.class, () -> clock.element(0, 2));
        Checks.same("keep(0, 1, 0)", clock.keep(0, 1, 0), 0);
        Checks.same("weight(0)", clock.weight(0), 10);
        Checks.thrown(clock, "element(0, 0)", IllegalStateException.class, () -> clock.element(0, 0));
        Checks.same("keep(0, 0, -9), k doesn't matter", clock.keep(0, 0, -9), 0);
        Checks.same("weight(0) of nothing", clock.weight(0), -11);
        Checks.same("keep(7, 0, 0)", clock.keep(7, 0, 0), 0);
        Checks.thrown(clock, "element(7, 0)", IllegalStateException.class, () -> clock.element(7, 0));
        FlowerClock empty = new FlowerClock();
        Checks.same("keep(0, 4, 0) without growers", empty.keep(0, 4, 0), 0);
        Checks.same("it is a row of none", empty.copy(0, 0, 0, 0, 0), 0);
        Checks.thrown(empty, "element(0, 0)", IllegalStateException.class, () -> empty.element(0, 0));
    }

    private static void promise25KeepIsACopy() {
        FlowerClock clock = clockOf(1);
        clock.lot(0, 100, 0, 0);
        clock.want(0, 0, 30, 20);
        clock.keep(0, 1, 0);
        clock.keep(1, 3, 0);
        clock.keep(2, 4, 0);
        clock.keep(3, 3, 0);
        clock.sell(0);
        Checks.same("weight(0) as it was", clock.weight(0), 110);
        Checks.same("element(1, 0) as it was", clock.element(1, 0), 30);
        Checks.same("element(2, 0) as it was", clock.element(2, 0), 0);
        clock.copy(1, 0, 1, 6, 1);
        Checks.same("element(1, 6)", clock.element(1, 6), 30);
        Checks.same("element(3, 6) on another shelf", clock.element(3, 6), 20);
        Checks.same("the limit is as before", clock.about(0, 8), 20);
    }

    private static void promise25Refusals() {
        FlowerClock clock = clockOf(1);
        clock.lot(0, 100, 0, 0);
        clock.keep(0, 1, 0);
        int[][] wrong = {{-1, 0, 0}, {8, 0, 0}, {0, -1, 0}, {0, 2, 0}, {0, 5, 0},
            {0, 1, -1}, {0, 1, 1}, {0, 3, -1}, {0, 3, 1}, {8, 1, 0}, {-1, 3, 0}, {8, 4, 0}};
        for (int[] call : wrong) {
            Checks.refused(clock, "keep(" + call[0] + ", " + call[1] + ", " + call[2] + ")", -1,
                () -> clock.keep(call[0], call[1], call[2]));
        }
    }

    private static void promise26Make() {
        FlowerClock clock = clockOf(1);
        clock.keep(2, 3, 0);
        Checks.same("make(2, 3, 60)", clock.make(2, 3, 60), 0);
        for (int i = 0; i < 60; i++) {
            Checks.same("element(2, " + i + ")", clock.element(2, i), 0);
        }
        Checks.thrown(clock, "element(2, 60)", IllegalStateException.class, () -> clock.element(2, 60));
        buy(clock, 0, 10);
        clock.keep(3, 4, 0);
        Checks.same("make(3, 4, 1)", clock.make(3, 4, 1), 0);
        Checks.same("element(3, 0)", clock.element(3, 0), 0);
        Checks.same("the kinds differ", clock.copy(2, 0, 3, 0, 1), -12);
        Checks.same("make(3, 4, 0)", clock.make(3, 4, 0), 0);
        Checks.same("a row of none", clock.copy(3, 0, 3, 0, 0), 0);
        Checks.same("weight(3) of a row of none", clock.weight(3), -12);
    }

    private static void promise26Refusals() {
        FlowerClock clock = clockOf(1);
        clock.keep(2, 3, 0);
        int[][] wrong = {{-1, 3, 1, -1}, {8, 3, 1, -1}, {2, 0, 1, -1}, {2, 1, 1, -1}, {2, 2, 1, -1}, {2, 5, 1, -1},
            {2, 3, 61, -1}, {2, 4, 61, -1}, {2, 4, Integer.MAX_VALUE, -1}, {2, 3, -1, -14}, {2, 4, -1, -14},
            {2, 4, Integer.MIN_VALUE, -14}, {8, 3, -1, -1}, {2, 1, -1, -1}};
        for (int[] call : wrong) {
            Checks.refused(clock, "make(" + call[0] + ", " + call[1] + ", " + call[2] + ")", call[3],
                () -> clock.make(call[0], call[1], call[2]));
        }
    }

    private static void promise27Element() {
        FlowerClock clock = clockOf(1);
        clock.want(0, 0, 1000, 99);
        clock.keep(5, 3, 0);
        Checks.same("element(5, 0)", clock.element(5, 0), 1000);
        Checks.same("element(5, 6)", clock.element(5, 6), 99);
        buy(clock, 0, 1000);
        clock.keep(6, 4, 0);
        Checks.same("element(6, 0) beyond a short", clock.element(6, 0), 45000);
    }

    private static void promise27Refusals() {
        FlowerClock clock = clockOf(1);
        clock.lot(0, 100, 0, 0);
        clock.keep(1, 1, 0);
        clock.make(2, 3, 2);
        clock.make(3, 4, 0);
        Checks.thrown(clock, "element(-1, 0)", IllegalArgumentException.class, () -> clock.element(-1, 0));
        Checks.thrown(clock, "element(8, 0)", IllegalArgumentException.class, () -> clock.element(8, 0));
        Checks.thrown(clock, "element(0, 0) of nothing", IllegalStateException.class, () -> clock.element(0, 0));
        Checks.thrown(clock, "element(1, 0) of a lot", IllegalStateException.class, () -> clock.element(1, 0));
        Checks.thrown(clock, "element(2, -1)", IllegalStateException.class, () -> clock.element(2, -1));
        Checks.thrown(clock, "element(2, 2)", IllegalStateException.class, () -> clock.element(2, 2));
        Checks.thrown(clock, "element(3, 0)", IllegalStateException.class, () -> clock.element(3, 0));
    }

    private static FlowerClock clockWithRows() {
        FlowerClock clock = clockOf(1);
        for (int sort = 0; sort < 6; sort++) {
            clock.want(0, sort, sort + 1, sort + 7);
        }
        clock.keep(0, 3, 0);
        clock.make(1, 3, 5);
        clock.grower(0);
        clock.keep(2, 4, 0);
        clock.make(3, 4, 9);
        clock.lot(0, 100, 0, 0);
        clock.keep(4, 1, 0);
        return clock;
    }

    private static void promise28Copy() {
        FlowerClock clock = clockWithRows();
        Checks.same("copy(0, 2, 1, 1, 3)", clock.copy(0, 2, 1, 1, 3), 3);
        Clocks.rowIs(clock, 1, 0, 3, 4, 5, 0);
        Clocks.rowIs(clock, 0, 1, 2, 3, 4, 5, 6, 7, 8, 9, 10, 11, 12);
        Checks.same("copy(0, 7, 1, 0, 5) to both ends", clock.copy(0, 7, 1, 0, 5), 5);
        Clocks.rowIs(clock, 1, 8, 9, 10, 11, 12);
        Checks.same("copy(0, 12, 1, 5, 0) at the end", clock.copy(0, 12, 1, 5, 0), 0);
        Checks.same("copy(2, 0, 3, 7, 2) of longs", clock.copy(2, 0, 3, 7, 2), 2);
        buy(clock, 0, 10);
        clock.keep(2, 4, 0);
        Checks.same("copy(2, 0, 3, 7, 2) of longs", clock.copy(2, 0, 3, 7, 2), 2);
        Clocks.rowIs(clock, 3, 0, 0, 0, 0, 0, 0, 0, 450, 0);
    }

    private static void promise28CopyOnItself() {
        FlowerClock up = clockWithRows();
        Checks.same("copy(0, 0, 0, 2, 10)", up.copy(0, 0, 0, 2, 10), 10);
        Clocks.rowIs(up, 0, 1, 2, 1, 2, 3, 4, 5, 6, 7, 8, 9, 10);
        FlowerClock down = clockWithRows();
        Checks.same("copy(0, 2, 0, 0, 10)", down.copy(0, 2, 0, 0, 10), 10);
        Clocks.rowIs(down, 0, 3, 4, 5, 6, 7, 8, 9, 10, 11, 12, 11, 12);
    }

    private static void promise28Refusals() {
        FlowerClock clock = clockWithRows();
        int max = Integer.MAX_VALUE;
        int min = Integer.MIN_VALUE;
        int[][] wrong = {
            {-1, 0, 0, 0, 0, -1}, {8, 0, 0, 0, 0, -1}, {0, 0, -1, 0, 0, -1}, {0, 0, 8, 0, 0, -1}, {7, 0, 8, 0, 0, -1},
            {7, 0, 0, 0, 0, -11}, {0, 0, 7, 0, 0, -11}, {4, 0, 7, 0, 0, -11}, {7, 0, 4, -1, 0, -11},
            {4, 0, 0, 0, 0, -12}, {0, 0, 4, 0, 0, -12}, {4, 0, 4, 0, 0, -12}, {0, 0, 2, 0, 1, -12},
            {2, 0, 0, 0, 1, -12}, {0, -1, 2, 0, 1, -12},
            {0, -1, 1, 0, 1, -13}, {0, 0, 1, -1, 1, -13}, {0, 0, 1, 0, -1, -13}, {0, 8, 1, 0, 5, -13},
            {0, 0, 1, 1, 5, -13}, {0, 13, 1, 0, 0, -13}, {0, 0, 1, 6, 0, -13}, {0, 12, 1, 0, 1, -13},
            {0, 0, 1, 5, 1, -13}, {0, max, 1, 0, max, -13}, {0, 1, 1, 1, max, -13}, {0, min, 1, min, min, -13},
            {0, max, 1, max, 1, -13}, {0, 0, 1, 0, min, -13}};
        for (int[] call : wrong) {
            String told = "copy(" + call[0] + ", " + call[1] + ", " + call[2] + ", " + call[3] + ", " + call[4] + ")";
            Checks.refused(clock, told, call[5], () -> clock.copy(call[0], call[1], call[2], call[3], call[4]));
        }
    }

    private static FlowerClock clockWithKinds() {
        FlowerClock clock = clockOf(1);
        clock.lot(0, 5, 0, 3);
        clock.lot(100, 6, 0, 2);
        clock.lot(200, 7, 0, 3);
        clock.lot(300, 8, 0, 1000);
        for (int shelf = 0; shelf < 4; shelf++) {
            clock.keep(shelf, 1, shelf);
        }
        clock.make(4, 3, 2);
        clock.make(5, 4, 2);
        return clock;
    }

    private static void promise29Weight() {
        FlowerClock clock = clockWithKinds();
        int[] due = {15, 216, 634, 1018};
        for (int shelf = 0; shelf < 4; shelf++) {
            Checks.same("weight(" + shelf + ")", clock.weight(shelf), due[shelf]);
        }
    }

    private static void promise29Refusals() {
        FlowerClock clock = clockWithKinds();
        Checks.refused(clock, "weight(-1)", -1, () -> clock.weight(-1));
        Checks.refused(clock, "weight(8)", -1, () -> clock.weight(8));
        Checks.refused(clock, "weight(7) of nothing", -11, () -> clock.weight(7));
        Checks.refused(clock, "weight(4) of shorts", -12, () -> clock.weight(4));
        Checks.refused(clock, "weight(5) of longs", -12, () -> clock.weight(5));
    }

    private static void promise30Toss() {
        FlowerClock clock = clockWithKinds();
        Checks.refused(clock, "toss(1)", 2, () -> clock.toss(1));
        Checks.refused(clock, "toss(2)", 3, () -> clock.toss(2));
        Checks.refused(clock, "toss(1) again", 2, () -> clock.toss(1));
    }

    private static void promise30Refusals() {
        FlowerClock clock = clockWithKinds();
        Checks.refused(clock, "toss(-1)", -1, () -> clock.toss(-1));
        Checks.refused(clock, "toss(8)", -1, () -> clock.toss(8));
        Checks.refused(clock, "toss(7) of nothing", -11, () -> clock.toss(7));
        Checks.refused(clock, "toss(4) of shorts", -12, () -> clock.toss(4));
        Checks.refused(clock, "toss(5) of longs", -12, () -> clock.toss(5));
        Checks.refused(clock, "toss(0) of a plain one", -15, () -> clock.toss(0));
        Checks.refused(clock, "toss(3) of a feast one", -15, () -> clock.toss(3));
    }
}
