import java.lang.reflect.InvocationTargetException;
import java.lang.reflect.Method;
import java.lang.reflect.Modifier;
import java.util.ArrayList;
import java.util.Arrays;
import java.util.Comparator;
import java.util.List;

/** What the document says ahead of its terms, "What it is", and behind its promises, "Not promised". */
final class WholeBoundaries {
    private static final int BEHIND = 31;
    private static final int CALLS = 512;
    private static final int[] EDGES = {Clocks.MIN, -1000001, -2, -1, 0, 0, 0, 1, 1, 1, 2, 3, 4, 5, 6, 7, 8, 9, 10, 11, 12, 13,
        39, 40, 50, 59, 60, 61, 99, 100, 101, 200, 300, 399, 400, 1000, 1001, 1000000, 1000001, Clocks.MAX};

    private WholeBoundaries() {
    }

    static void run() {
        oneDayAtTheClock();
        ordersTakeTheMostOrGoByTurns();
        lastOf512CallsIsAnswered();
        laterCallsNeitherThrowByThemselvesNorHang();
        objectsHaveNoTextOrEqualityOfTheirOwn();
        objectsShareNothing();
        asksChangeNothing();
    }

    private static void oneDayAtTheClock() {
        FlowerClock clock = new FlowerClock();
        clock.grower(10);
        clock.grower(0);
        Checks.holds(0, "buyers with wants, limits and credit");
        for (int buyer = 0; buyer < 3; buyer++) {
            Checks.same("buyer", clock.buyer(buyer == 1 ? 500 : 4000), buyer);
            Checks.same("want", clock.want(buyer, 0, 30 + buyer % 2 * 20, 60 + buyer % 2 * 10), 0);
        }
        Checks.same("credit of buyer 1", clock.about(1, 0), 500);
        Checks.same("its want", clock.about(1, 2), 50);
        Checks.same("its limit", clock.about(1, 8), 70);
        clock.lot(0, 80, 5, 0);
        clock.lot(201, 50, 0, 2);
        Checks.holds(0, "prices foretold");
        Checks.same("foretold(0)", clock.foretold(0), 70);
        Checks.same("first(0)", clock.first(0), 1);
        Checks.holds(0, "A flower clock: lots of stems sold by a hand that falls");
        Checks.same("sell(0)", clock.sell(0), 68);
        Clocks.paymentIs(clock, 0, 1, 0, 7, 70, 0, 0);
        Checks.holds(0, "ties by seats");
        Clocks.paymentIs(clock, 1, 0, 0, 30, 60, 0, 0);
        Clocks.paymentIs(clock, 2, 2, 0, 30, 60, 0, 0);
        Checks.holds(0, "lots that are parted");
        Clocks.paymentIs(clock, 3, 1, 0, 1, 10, 0, 0);
        Checks.same("payments", clock.count(4), 4);
        theSameDayGoesOn(clock);
    }

    private static void theSameDayGoesOn(FlowerClock clock) {
        Checks.holds(0, "marks of quality held against what is found");
        clock.want(0, 0, 5, 50);
        clock.want(1, 0, 0, 50);
        clock.want(2, 0, 5, 50);
        Checks.same("worth", clock.worth(0, 1), 53);
        Checks.same("found", clock.found(1, 1), -2);
        Checks.same("worth, one step below", clock.worth(0, 1), 43);
        Checks.same("sell(1)", clock.sell(1), 10);
        Checks.holds(0, "what growers take");
        Checks.same("takings(0)", clock.takings(0), 441 + 1620 + 1620 + 9);
        Checks.same("takings(1)", clock.takings(1), 430);
        Checks.holds(0, "carts to docks minute by minute");
        int[] minutes = {1, 1, 1, 2, 2, 2};
        for (int k = 0; k < minutes.length; k++) {
            Checks.same("cart(" + k + ")", clock.cart(k), minutes[k]);
        }
        Checks.same("dock(2)", clock.dock(2), 2);
        Checks.same("dock(3)", clock.dock(3), 0);
        Checks.holds(0, "rests crushed or cooled");
        Checks.same("close()", clock.close(), 12);
        Checks.same("crushed", clock.look(0, 3), 0);
        Checks.same("cooled", clock.look(1, 3), 40);
        Checks.holds(0, "and claims that lead back to a payment");
        Checks.same("claim", clock.claim(1, 10), 600);
        Checks.same("credit", clock.about(0, 0), 4000 - 1800 - 215 + 600);
        Checks.same("takings(0)", clock.takings(0), 3690 - 540);
        Checks.same("bill(0, 0)", clock.bill(0, 0), 2015 - 600);
        Clocks.paymentIs(clock, 1, 0, 0, 30, 60, 0, 10);
    }

    private static void ordersTakeTheMostOrGoByTurns() {
        Checks.holds(0, "the order of lots by which they take the most or by turns");
        FlowerClock clock = new FlowerClock();
        clock.grower(100);
        clock.grower(0);
        clock.buyer(50);
        clock.want(0, 0, 1, 50);
        clock.lot(0, 1, 0, 0);
        clock.lot(1, 1, 0, 0);
        Clocks.orderIs(clock, 0, 0, 1);
        Clocks.orderIs(clock, 1, 1, 0);
        Clocks.orderIs(clock, 2, 0, 1);
        Checks.same("would(1)", clock.would(1), 50);
        Checks.same("would(2)", clock.would(2), 0);
        Checks.same("round(1)", clock.round(1), 1);
        Checks.same("takings(1)", clock.takings(1), 50);
    }

    private static void lastOf512CallsIsAnswered() {
        Checks.holds(0, "An object is used for at most 512 calls after it has been made");
        FlowerClock clock = Clocks.of(1, 1000, 40, 50);
        clock.lot(200, 1000, 1, 1);
        int made = 4;
        for (int day = 0; made + 6 < CALLS; day++, made += 6) {
            clock.want(0, 0, 2, 47);
            clock.credit(0, 100);
            Checks.same("sell on day " + day, clock.sell(0), 2);
            Checks.same("cart on day " + day, clock.cart(day), 1);
            Checks.same("close on day " + day, clock.close(), 0);
            Checks.same("takings on day " + day, clock.takings(0), 100L * (day + 1));
        }
        int sales = made / 6;
        for (; made < CALLS - 1; made++) {
            Checks.same("stems left", clock.look(0, 3), 1000 - 2 * sales);
        }
        Checks.same("the 512th call", clock.count(4), sales);
    }

    private static void laterCallsNeitherThrowByThemselvesNorHang() {
        Checks.holds(0, "what later calls answer is free");
        Method[] calls = FlowerClock.class.getDeclaredMethods();
        calls = Arrays.stream(calls).filter(call -> Modifier.isPublic(call.getModifiers())).toArray(Method[]::new);
        Arrays.sort(calls, Comparator.comparing(Method::getName));
        long seed = 42;
        for (int object = 0; object < 10; object++) {
            FlowerClock clock = object % 2 == 0 ? new FlowerClock() : Clocks.withPayments(400 - object / 2);
            String thrown = "";
            for (int made = 0; made < 100 * CALLS && thrown.isEmpty(); made++) {
                seed = next(seed);
                Method call = calls[(int) ((seed >>> 33) % calls.length)];
                Integer[] arguments = new Integer[call.getParameterCount()];
                for (int i = 0; i < arguments.length; i++) {
                    seed = next(seed);
                    arguments[i] = EDGES[(int) ((seed >>> 33) % EDGES.length)];
                }
                thrown = notTold(clock, call, arguments);
            }
            Checks.sameText("thrown by object " + object, thrown, "");
            Checks.same("the last day of object " + object, clock.count(3), 1000);
            Checks.same("lots of object " + object, clock.count(1), 40);
        }
    }

    private static long next(long seed) {
        return seed * 6364136223846793005L + 1442695040888963407L;
    }

    /** What a call throws without the face telling it; empty: nothing. */
    private static String notTold(FlowerClock clock, Method call, Integer[] arguments) {
        try {
            call.invoke(clock, (Object[]) arguments);
        } catch (InvocationTargetException thrown) {
            Class<?> cause = thrown.getCause().getClass();
            return Arrays.asList(call.getExceptionTypes()).contains(cause) 
                ? "" : call.getName() + Arrays.toString(arguments) + " threw " + cause.getName();
        } catch (IllegalAccessException closed) {
            return closed.toString();
        }
        return "";
    }

    private static void objectsHaveNoTextOrEqualityOfTheirOwn() {
        Checks.holds(BEHIND, "How the state is held inside the object is free, as are the speed of each call, the text of"
            + " toString and the behaviour of equals and hashCode.");
        List<Class<?>> classes = new ArrayList<>(Arrays.asList(FlowerClock.class.getDeclaredClasses()));
        classes.add(FlowerClock.class);
        for (Class<?> one : classes) {
            for (Method method : one.getDeclaredMethods()) {
                boolean own = Arrays.asList("toString", "equals", "hashCode", "finalize").contains(method.getName());
                Checks.same(one.getName() + "." + method.getName(), own ? 1 : 0, 0);
            }
        }
    }

    private static void objectsShareNothing() {
        Checks.holds(BEHIND, "Use of one object from several threads at once is not promised to be safe.");
        String due = Picture.of(busy());
        String[] got = new String[4];
        Thread[] threads = new Thread[got.length];
        for (int i = 0; i < threads.length; i++) {
            int own = i;
            threads[i] = new Thread(() -> got[own] = Picture.of(busy()));
            threads[i].start();
        }
        for (int i = 0; i < threads.length; i++) {
            try {
                threads[i].join();
            } catch (InterruptedException stopped) {
                got[i] = stopped.toString();
            }
            Checks.sameText("an object of its own in thread " + i, String.valueOf(got[i]), due);
        }
        FlowerClock one = busy();
        FlowerClock other = busy();
        one.round(0);
        one.close();
        Checks.sameText("an object beside another one", Picture.of(other), due);
    }

    private static void asksChangeNothing() {
        Checks.holds(BEHIND, "Nothing is promised beyond the answers and state changes described above, and nothing about"
            + " an object after its 512th call.");
        FlowerClock clock = busy();
        String before = Picture.of(clock);
        for (int i = 0; i < 14; i++) {
            int k = i;
            Checks.same("look", clock.look(2, k), new int[] {2, 0, 0, 30, 1, 2, 0, 0, 0, -1, -1, -1, -1, -1}[k]);
            Checks.sameText("worth", Checks.nameOfThrown(() -> clock.worth(k, 2)), k == 0 ? "33" : k == 1 ? "43" : "-1");
            Checks.same("foretold", clock.foretold(k), new int[] {60, -2, -2, -2, -2, -2, -1, -1, -1, -1, -1, -1, -1, -1}[k]);
            Checks.same("first", clock.first(k), new int[] {1, -2, -2, -2, -2, -2, -1, -1, -1, -1, -1, -1, -1, -1}[k]);
            clock.about(0, k);
            clock.place(k % 3, k);
            clock.payment(0, k);
            clock.cart(k);
            clock.dock(k);
            clock.count(k);
            clock.weight(k);
            clock.toss(k);
            Checks.nameOfThrown(() -> clock.takings(k));
            Checks.nameOfThrown(() -> clock.would(k));
            Checks.nameOfThrown(() -> clock.bill(1, k));
            Checks.nameOfThrown(() -> clock.element(k, 0));
            Checks.sameText("after asks of " + k, Picture.of(clock), before);
        }
    }

    /** A clock with something of all: payments, a claim, rests, shelves, and lots for an order. */
    private static FlowerClock busy() {
        FlowerClock clock = Clocks.of(2, 3000, 40, 50, 2000, 40, 60);
        clock.lot(0, 20, 5, 0);
        clock.sell(0);
        clock.claim(0, 3);
        clock.lot(101, 30, 10, 3);
        clock.lot(200, 30, 1, 2);
        clock.lot(301, 30, 0, 1);
        clock.found(2, 0);
        clock.keep(0, 1, 2);
        clock.keep(1, 3, 1);
        clock.keep(2, 4, 0);
        clock.make(3, 3, 5);
        return clock;
    }
}
