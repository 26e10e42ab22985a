/** Promises 1 to 11. */
public final class GrowersLotsBuyersTest {
    public static void main(String[] args) {
        promise1NewObject();
        promise2Grower();
        promise2Refusals();
        promise3Lot();
        promise3Refusals();
        promise4Found();
        promise4Refusals();
        promise5Buyer();
        promise5Refusals();
        promise6Want();
        promise6Refusals();
        promise7Credit();
        promise7Refusals();
        promise8Worth();
        promise8WorthStaysWithinCents();
        promise8WorthOfFeastByDays();
        promise8Refusals();
        promise9Look();
        promise9LookAfterSales();
        promise9Refusals();
        promise10About();
        promise10Refusals();
        promise11Takings();
        promise11Refusals();
        Checks.end("GrowersLotsBuyersTest");
    }

    private static void promise1NewObject() {
        FlowerClock clock = new FlowerClock();
        for (int what = 0; what <= 7; what++) {
            Checks.same("new: count(" + what + ")", clock.count(what), 0);
        }
        Checks.same("new: look(0, 0)", clock.look(0, 0), -1);
        Checks.same("new: about(0, 0)", clock.about(0, 0), -1);
        Checks.same("new: payment(0, 0)", clock.payment(0, 0), -1);
        Checks.thrown(clock, "new: takings(0)", IllegalArgumentException.class, () -> clock.takings(0));
        for (int shelf = 0; shelf < 8; shelf++) {
            Checks.same("new: weight(" + shelf + ")", clock.weight(shelf), -11);
        }
        for (int order = 0; order < 3; order++) {
            Checks.same("new: round(" + order + ")", clock.round(order), 0);
            Checks.same("new: would(" + order + ")", clock.would(order), 0);
            Checks.same("new: place(" + order + ", 0)", clock.place(order, 0), -3);
        }
        Checks.same("new: close()", clock.close(), 0);
        FlowerClock other = new FlowerClock();
        Checks.same("another: count(3)", other.count(3), 0);
    }

    private static void promise2Grower() {
        FlowerClock clock = new FlowerClock();
        for (int i = 0; i < 10; i++) {
            Checks.same("grower " + i, clock.grower(i * 11), i);
        }
        Checks.same("count(0)", clock.count(0), 10);
        FlowerClock edges = new FlowerClock();
        Checks.same("grower(0)", edges.grower(0), 0);
        Checks.same("grower(100)", edges.grower(100), 1);
    }

    private static void promise2Refusals() {
        FlowerClock clock = new FlowerClock();
        Checks.refused(clock, "grower(-1)", -1, () -> clock.grower(-1));
        Checks.refused(clock, "grower(101)", -1, () -> clock.grower(101));
        Checks.refused(clock, "grower(MIN)", -1, () -> clock.grower(Integer.MIN_VALUE));
        for (int i = 0; i < 10; i++) {
            clock.grower(5);
        }
        Checks.refused(clock, "an eleventh grower", -2, () -> clock.grower(5));
        Checks.refused(clock, "an eleventh grower, with a wrong due", -1, () -> clock.grower(101));
        Checks.thrown(clock, "takings(10)", IllegalArgumentException.class, () -> clock.takings(10));
    }

    private static void promise3Lot() {
        FlowerClock clock = new FlowerClock();
        for (int i = 0; i < 10; i++) {
            clock.grower(0);
        }
        Checks.same("lot(0..)", clock.lot(0, 1, 0, -77), 0);
        Checks.same("lot(159..)", clock.lot(159, 1000, 99, 1), 1);
        Checks.same("lot(247..)", clock.lot(247, 500, 50, 3), 2);
        Checks.same("lot(301..)", clock.lot(301, 7, 8, 1000), 3);
        Checks.same("lot(312..)", clock.lot(312, 7, 8, 0), 4);
        int[][] due = {
            {0, 0, 0, 1, 0, -2, -2, 0, 0}, {1, 9, 5, 1000, 99, 1, -2, 0, 0}, {2, 7, 4, 500, 50, 3, -2, 0, 0},
            {3, 1, 0, 7, 8, 1000, -2, 0, 0}, {3, 2, 1, 7, 8, 0, -2, 0, 0}};
        for (int lot = 0; lot < due.length; lot++) {
            for (int what = 0; what < due[lot].length; what++) {
                Checks.same("look(" + lot + ", " + what + ")", clock.look(lot, what), due[lot][what]);
            }
        }
    }

    private static void promise3Refusals() {
        FlowerClock clock = new FlowerClock();
        Checks.refused(clock, "a lot of no grower", -1, () -> clock.lot(0, 10, 0, 0));
        clock.grower(0);
        clock.grower(0);
        int[][] wrong = {
            {-1, 10, 0, 0}, {-100, 10, 0, 1}, {Integer.MIN_VALUE, 10, 0, 1}, {Integer.MAX_VALUE, 10, 0, 1},
            {2, 10, 0, 0}, {60, 10, 0, 0}, {90, 10, 0, 0}, {400, 10, 0, 1}, {1000, 10, 0, 1},
            {0, 0, 0, 0}, {0, -1, 0, 0}, {0, 1001, 0, 0}, {0, 10, -1, 0}, {0, 10, 100, 0},
            {100, 10, 0, 0}, {100, 10, 0, 4}, {100, 10, 0, -1}, {200, 10, 0, 0}, {200, 10, 0, 4},
            {300, 10, 0, -1}, {300, 10, 0, 1001}};
        for (int[] call : wrong) {
            Checks.refused(clock, "lot(" + call[0] + ", " + call[1] + ", " + call[2] + ", " + call[3] + ")", -1,
                () -> clock.lot(call[0], call[1], call[2], call[3]));
        }
        for (int i = 0; i < 40; i++) {
            Checks.same("lot " + i, clock.lot(1, 10, 0, 0), i);
        }
        Checks.refused(clock, "a lot more than 40", -2, () -> clock.lot(1, 10, 0, 0));
        Checks.refused(clock, "a wrong lot more than 40", -1, () -> clock.lot(1, 0, 0, 0));
        Checks.same("look(40, 0)", clock.look(40, 0), -1);
        Checks.same("look(41, 0)", clock.look(41, 0), -1);
    }

    private static void promise4Found() {
        FlowerClock clock = new FlowerClock();
        clock.grower(0);
        clock.lot(100, 10, 0, 2);
        clock.lot(200, 10, 0, 3);
        Checks.same("found(0, 3)", clock.found(0, 3), -2);
        Checks.same("found(0, 0)", clock.found(0, 0), 3);
        Checks.same("found(0, 1)", clock.found(0, 1), 0);
        Checks.same("look(0, 6)", clock.look(0, 6), 1);
        Checks.same("found(1, 2)", clock.found(1, 2), -2);
        Checks.same("look(1, 6)", clock.look(1, 6), 2);
    }

    private static void promise4Refusals() {
        FlowerClock clock = new FlowerClock();
        clock.grower(0);
        clock.lot(0, 10, 0, 0);
        clock.lot(100, 10, 0, 2);
        clock.lot(300, 10, 0, 2);
        clock.found(1, 1);
        Checks.refused(clock, "found(-1, 1)", -1, () -> clock.found(-1, 1));
        Checks.refused(clock, "found(3, 1)", -1, () -> clock.found(3, 1));
        Checks.refused(clock, "found(1, -1)", -1, () -> clock.found(1, -1));
        Checks.refused(clock, "found(1, 4)", -1, () -> clock.found(1, 4));
        Checks.refused(clock, "found(0, 4) of a plain one", -1, () -> clock.found(0, 4));
        Checks.refused(clock, "found(0, 1) of a plain one", -3, () -> clock.found(0, 1));
        Checks.refused(clock, "found(2, 1) of a feast one", -3, () -> clock.found(2, 1));
    }

    private static void promise5Buyer() {
        FlowerClock clock = new FlowerClock();
        Checks.same("buyer(0)", clock.buyer(0), 0);
        Checks.same("buyer(1000000)", clock.buyer(1000000), 1);
        Checks.same("about(1, 0)", clock.about(1, 0), 1000000);
        for (int what = 1; what <= 13; what++) {
            Checks.same("about(1, " + what + ")", clock.about(1, what), 0);
        }
        Checks.same("count(2)", clock.count(2), 2);
    }

    private static void promise5Refusals() {
        FlowerClock clock = new FlowerClock();
        Checks.refused(clock, "buyer(-1)", -1, () -> clock.buyer(-1));
        Checks.refused(clock, "buyer(1000001)", -1, () -> clock.buyer(1000001));
        for (int i = 0; i < 12; i++) {
            Checks.same("buyer " + i, clock.buyer(i), i);
        }
        Checks.refused(clock, "a thirteenth buyer", -2, () -> clock.buyer(5));
        Checks.refused(clock, "a wrong thirteenth buyer", -1, () -> clock.buyer(-5));
        Checks.same("about(12, 0)", clock.about(12, 0), -1);
    }

    private static void promise6Want() {
        FlowerClock clock = new FlowerClock();
        clock.buyer(100);
        clock.buyer(100);
        Checks.same("want(1, 5, 1000, 99)", clock.want(1, 5, 1000, 99), 0);
        Checks.same("want(1, 5, 0, 0)", clock.want(1, 5, 0, 0), 1000);
        Checks.same("want(1, 5, 3, 4)", clock.want(1, 5, 3, 4), 0);
        Checks.same("want(0, 5, 8, 9)", clock.want(0, 5, 8, 9), 0);
        Checks.same("want(1, 0, 6, 7)", clock.want(1, 0, 6, 7), 0);
        Checks.same("about(1, 7)", clock.about(1, 7), 3);
        Checks.same("about(1, 13)", clock.about(1, 13), 4);
        Checks.same("about(0, 7)", clock.about(0, 7), 8);
        Checks.same("about(1, 2)", clock.about(1, 2), 6);
        Checks.same("about(1, 8)", clock.about(1, 8), 7);
    }

    private static void promise6Refusals() {
        FlowerClock clock = new FlowerClock();
        clock.buyer(100);
        clock.want(0, 0, 5, 6);
        int[][] wrong = {{-1, 0, 1, 1}, {1, 0, 1, 1}, {0, -1, 1, 1}, {0, 6, 1, 1},
            {0, 0, -1, 1}, {0, 0, 1001, 1}, {0, 0, 1, -1}, {0, 0, 1, 100}};
        for (int[] call : wrong) {
            Checks.refused(clock, "want(" + call[0] + ", " + call[1] + ", " + call[2] + ", " + call[3] + ")", -1,
                () -> clock.want(call[0], call[1], call[2], call[3]));
        }
    }

    private static void promise7Credit() {
        FlowerClock clock = new FlowerClock();
        clock.buyer(100);
        clock.buyer(200);
        Checks.same("credit(0, 1000000)", clock.credit(0, 1000000), 100);
        Checks.same("credit(0, 0)", clock.credit(0, 0), 1000000);
        Checks.same("about(0, 0)", clock.about(0, 0), 0);
        Checks.same("about(1, 0)", clock.about(1, 0), 200);
    }

    private static void promise7Refusals() {
        FlowerClock clock = new FlowerClock();
        clock.buyer(100);
        Checks.refused(clock, "credit(-1, 1)", -1, () -> clock.credit(-1, 1));
        Checks.refused(clock, "credit(1, 1)", -1, () -> clock.credit(1, 1));
        Checks.refused(clock, "credit(0, -1)", -1, () -> clock.credit(0, -1));
        Checks.refused(clock, "credit(0, 1000001)", -1, () -> clock.credit(0, 1000001));
    }

    private static void promise8Worth() {
        FlowerClock clock = new FlowerClock();
        clock.grower(0);
        clock.buyer(0);
        clock.want(0, 2, 0, 50);
        clock.lot(20, 10, 99, 0);
        clock.lot(120, 10, 0, 3);
        clock.lot(220, 10, 0, 3);
        clock.lot(30, 10, 0, 0);
        Checks.same("worth of a plain one", clock.worth(0, 0), 50);
        Checks.same("worth of a marked one, nothing found", clock.worth(0, 1), 50);
        Checks.same("worth of a cooled one, nothing found", clock.worth(0, 2), 53);
        Checks.same("worth of another sort", clock.worth(0, 3), 0);
        int[] due = {20, 30, 40, 50};
        for (int quality = 0; quality <= 3; quality++) {
            clock.found(1, quality);
            clock.found(2, quality);
            Checks.same("worth of a marked one, found " + quality, clock.worth(0, 1), due[quality]);
            Checks.same("worth of a cooled one, found " + quality, clock.worth(0, 2), due[quality] + 3);
        }
        clock.lot(120, 10, 0, 1);
        clock.found(4, 3);
        Checks.same("worth of one found above its mark", clock.worth(0, 4), 50);
    }

    private static void promise8WorthStaysWithinCents() {
        FlowerClock clock = new FlowerClock();
        clock.grower(0);
        clock.buyer(0);
        clock.lot(100, 10, 0, 3);
        clock.lot(200, 10, 0, 1);
        clock.lot(300, 10, 0, 0);
        clock.found(0, 0);
        clock.want(0, 0, 0, 29);
        Checks.same("worth that would be -1", clock.worth(0, 0), 0);
        clock.want(0, 0, 0, 31);
        Checks.same("worth that is 1", clock.worth(0, 0), 1);
        clock.want(0, 0, 0, 97);
        Checks.same("worth that would be 100", clock.worth(0, 1), 99);
        Checks.same("worth that would be 102", clock.worth(0, 2), 99);
        clock.want(0, 0, 0, 96);
        Checks.same("worth that is 99", clock.worth(0, 1), 99);
        clock.want(0, 0, 0, 5);
        clock.found(1, 0);
        Checks.same("worth that would be -2 by both", clock.worth(0, 1), 0);
    }

    private static void promise8WorthOfFeastByDays() {
        FlowerClock clock = new FlowerClock();
        clock.grower(0);
        clock.buyer(0);
        clock.want(0, 0, 0, 50);
        clock.lot(300, 10, 0, 3);
        clock.lot(300, 10, 0, 0);
        clock.lot(300, 10, 0, 1000);
        int[] first = {50, 55, 55, 55, 50};
        int[] second = {55, 50, 50, 50, 50};
        for (int day = 0; day < 5; day++) {
            Checks.same("worth for a feast on day 3 on day " + day, clock.worth(0, 0), first[day]);
            Checks.same("worth for a feast on day 0 on day " + day, clock.worth(0, 1), second[day]);
            Checks.same("worth for a feast on day 1000 on day " + day, clock.worth(0, 2), 50);
            clock.close();
        }
    }

    private static void promise8Refusals() {
        FlowerClock clock = new FlowerClock();
        clock.grower(0);
        clock.buyer(0);
        clock.lot(0, 10, 0, 0);
        Checks.refused(clock, "worth(-1, 0)", -1, () -> clock.worth(-1, 0));
        Checks.refused(clock, "worth(1, 0)", -1, () -> clock.worth(1, 0));
        Checks.refused(clock, "worth(0, -1)", -1, () -> clock.worth(0, -1));
        Checks.refused(clock, "worth(0, 1)", -1, () -> clock.worth(0, 1));
    }

    private static void promise9Look() {
        FlowerClock clock = new FlowerClock();
        clock.grower(0);
        clock.grower(0);
        clock.lot(241, 30, 12, 2);
        clock.found(0, 1);
        int[] due = {2, 1, 4, 30, 12, 2, 1, 0, 0};
        for (int what = 0; what <= 8; what++) {
            Checks.same("look(0, " + what + ")", clock.look(0, what), due[what]);
        }
    }

    private static void promise9LookAfterSales() {
        FlowerClock clock = new FlowerClock();
        clock.grower(0);
        clock.buyer(10000);
        clock.want(0, 0, 4, 10);
        clock.lot(200, 30, 0, 1);
        clock.sell(0);
        Checks.same("stems left", clock.look(0, 3), 26);
        Checks.same("offered", clock.look(0, 7), 1);
        Checks.same("sold", clock.look(0, 8), 4);
        clock.claim(0, 2);
        Checks.same("sold, with a claim", clock.look(0, 8), 4);
        Checks.same("left, with a claim", clock.look(0, 3), 26);
        clock.close();
        Checks.same("offered on the day after", clock.look(0, 7), 0);
        clock.want(0, 0, 5, 10);
        clock.sell(0);
        Checks.same("sold on all days", clock.look(0, 8), 9);
        Checks.same("left after two days", clock.look(0, 3), 21);
    }

    private static void promise9Refusals() {
        FlowerClock clock = new FlowerClock();
        clock.grower(0);
        clock.lot(0, 10, 0, 0);
        Checks.refused(clock, "look(-1, 0)", -1, () -> clock.look(-1, 0));
        Checks.refused(clock, "look(1, 0)", -1, () -> clock.look(1, 0));
        Checks.refused(clock, "look(0, -1)", -1, () -> clock.look(0, -1));
        Checks.refused(clock, "look(0, 9)", -1, () -> clock.look(0, 9));
    }

    private static void promise10About() {
        FlowerClock clock = new FlowerClock();
        clock.grower(0);
        clock.buyer(7);
        clock.buyer(1000);
        for (int sort = 0; sort < 6; sort++) {
            clock.want(1, sort, 100 + sort, 20 + sort);
        }
        for (int sort = 0; sort < 6; sort++) {
            Checks.same("want of sort " + sort, clock.about(1, 2 + sort), 100 + sort);
            Checks.same("limit of sort " + sort, clock.about(1, 8 + sort), 20 + sort);
        }
        clock.lot(30, 5, 23, 0);
        clock.lot(40, 6, 24, 0);
        clock.sell(0);
        clock.sell(1);
        Checks.same("credit", clock.about(1, 0), 1000 - 5 * 23 - 6 * 24);
        Checks.same("bought of two sorts", clock.about(1, 1), 11);
        Checks.same("want of sort 3, less", clock.about(1, 5), 98);
        Checks.same("limit of sort 3, as before", clock.about(1, 11), 23);
        clock.close();
        Checks.same("bought on the day after", clock.about(1, 1), 0);
    }

    private static void promise10Refusals() {
        FlowerClock clock = new FlowerClock();
        clock.buyer(7);
        Checks.refused(clock, "about(-1, 0)", -1, () -> clock.about(-1, 0));
        Checks.refused(clock, "about(1, 0)", -1, () -> clock.about(1, 0));
        Checks.refused(clock, "about(0, -1)", -1, () -> clock.about(0, -1));
        Checks.refused(clock, "about(0, 14)", -1, () -> clock.about(0, 14));
    }

    private static void promise11Takings() {
        FlowerClock clock = new FlowerClock();
        clock.grower(15);
        clock.grower(100);
        clock.grower(0);
        clock.buyer(100000);
        clock.want(0, 0, 3, 33);
        clock.lot(0, 3, 0, 0);
        Checks.same("takings of nothing", clock.takings(0), 0);
        clock.sell(0);
        Checks.same("takings of 99 less 14", clock.takings(0), 85);
        clock.want(0, 0, 3, 33);
        clock.lot(0, 3, 0, 0);
        clock.sell(1);
        Checks.same("takings, cut by each payment", clock.takings(0), 170);
        clock.claim(0, 1);
        Checks.same("takings less those of a claim, 33 less 4", clock.takings(0), 141);
        clock.want(0, 0, 3, 33);
        clock.lot(1, 3, 0, 0);
        clock.sell(2);
        Checks.same("takings with a due of 100", clock.takings(1), 0);
        clock.want(0, 0, 3, 33);
        clock.lot(2, 3, 0, 0);
        clock.sell(3);
        Checks.same("takings with a due of 0", clock.takings(2), 99);
        clock.close();
        Checks.same("takings on the day after", clock.takings(0), 141);
    }

    private static void promise11Refusals() {
        FlowerClock clock = new FlowerClock();
        clock.grower(15);
        Checks.thrown(clock, "takings(-1)", IllegalArgumentException.class, () -> clock.takings(-1));
        Checks.thrown(clock, "takings(1)", IllegalArgumentException.class, () -> clock.takings(1));
    }
}
