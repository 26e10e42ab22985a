/** Clocks that tests begin with, and what they look at again and again. */
final class Clocks {
    static final int MIN = Integer.MIN_VALUE;
    static final int MAX = Integer.MAX_VALUE;

    private Clocks() {
    }

    /** A clock with so many growers without due and buyers with credit and a want of sort 0. */
    static FlowerClock of(int growers, int... creditStemsLimit) {
        FlowerClock clock = new FlowerClock();
        for (int i = 0; i < growers; i++) {
            clock.grower(0);
        }
        for (int i = 0; i + 2 < creditStemsLimit.length; i += 3) {
            int buyer = clock.buyer(creditStemsLimit[i]);
            clock.want(buyer, 0, creditStemsLimit[i + 1], creditStemsLimit[i + 2]);
        }
        return clock;
    }

    /**
     * A clock whose room for payments is filled up to so many, in some 260 calls: by 12 buyers, whose credits are
     * used up then, out of 17 cooled lots of sort 0, sold by 1 cent at least. Each sale has 24 payments, the last one
     * what is left: at 63 and, with what credit is left, at 37, by seats. Beyond 384 all the lots were offered.
     */
    static FlowerClock withPayments(int payments) {
        FlowerClock clock = of(1);
        for (int buyer = 0; buyer < 12; buyer++) {
            clock.buyer(0);
            clock.want(buyer, 0, 1000, 60);
        }
        for (int lot = 0; lot < 17; lot++) {
            clock.lot(200, 1000, 1, 1);
        }
        int made = 0;
        for (int lot = 0; made < payments; lot++) {
            for (int buyer = 0; buyer < 12 && made < payments; buyer++) {
                boolean twice = made + 1 < payments;
                clock.credit(buyer, twice ? 63 + 37 : 63);
                made += twice ? 2 : 1;
            }
            clock.sell(lot);
        }
        Checks.same("payments made", clock.count(4), payments);
        return clock;
    }

    /** Seat buys so many stems of a new lot of grower 0, at so many cents, out of its sort 5. */
    static int buy(FlowerClock clock, int seat, int stems, int cents) {
        clock.want(seat, 5, stems, cents);
        int lot = clock.lot(50, stems, cents, 0);
        Checks.same("stems bought by seat " + seat, clock.sell(lot), stems);
        return lot;
    }

    static void paymentIs(FlowerClock clock, int k, int... due) {
        for (int what = 0; what < due.length; what++) {
            Checks.same("payment(" + k + ", " + what + ")", clock.payment(k, what), due[what]);
        }
    }

    static void orderIs(FlowerClock clock, int order, int... due) {
        for (int i = 0; i < due.length; i++) {
            Checks.same("place(" + order + ", " + i + ")", clock.place(order, i), due[i]);
        }
        Checks.same("place(" + order + ", behind)", clock.place(order, due.length), -3);
    }

    static void rowIs(FlowerClock clock, int shelf, int... due) {
        for (int i = 0; i < due.length; i++) {
            Checks.same("element(" + shelf + ", " + i + ")", clock.element(shelf, i), due[i]);
        }
        Checks.thrown(clock, "element(" + shelf + ", behind)", IllegalStateException.class,
            () -> clock.element(shelf, due.length));
    }
}
