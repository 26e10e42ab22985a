/** Runs of made-up calls, the same ones each time: each answer of the clock is held against the model's. */
public final class RandomRunsTest {
    private static final int CALLS = 512;
    private static final String[] NAMES = {"grower", "lot", "found", "buyer", "want", "credit", "worth", "look", "about",
        "takings", "sell", "round", "place", "would", "foretold", "first", "close", "payment", "claim", "cart", "dock",
        "bill", "count", "keep", "make", "element", "copy", "weight", "toss"};

    private long seed;
    private final FlowerClock clock = new FlowerClock();
    private final Model model = new Model();
    private final boolean small;
    private final StringBuilder told = new StringBuilder();

    private RandomRunsTest(int run) {
        seed = 7919L * run + 12345;
        small = run % 2 == 0;
    }

    public static void main(String[] args) {
        for (int run = 0; run < 300; run++) {
            new RandomRunsTest(run).go(run);
        }
        for (int run = 0; run < 40; run++) {
            new RandomRunsTest(run).goFull(run);
            new RandomRunsTest(run).goBest(run);
        }
        Checks.end("RandomRunsTest");
    }

    private int below(int bound) {
        seed = seed * 6364136223846793005L + 1442695040888963407L;
        return (int) ((seed >>> 33) % bound);
    }

    /** A number about a range, now and then just outside it or far off. */
    private int about(int from, int to) {
        int kind = below(60);
        if (kind == 0) return from - 1;
        if (kind == 1) return to + 1;
        if (kind == 2) return from;
        if (kind == 3) return to;
        if (kind == 4 && below(8) == 0) return below(2) == 0 ? Integer.MIN_VALUE : Integer.MAX_VALUE;
        return from + below(to - from + 1);
    }

    private int existing(int what) {
        return about(0, Math.max(0, model.count(what) - 1));
    }

    private void go(int run) {
        begin(run);
        for (int i = 0; i < CALLS - 15; i++) {
            int name = below(NAMES.length + 12);
            int[] extra = {10, 10, 10, 4, 4, 4, 5, 5, 1, 11, 11, 18};
            callAny(run, NAMES[name < NAMES.length ? name : extra[name - NAMES.length]]);
        }
    }

    /** Days of many small sales out of lots that last, beyond the room for payments. */
    private void goFull(int run) {
        begin(run);
        while (model.count(2) < 12) {
            call(run, "buyer", below(300));
        }
        for (int lot = 0; lot < 30; lot++) {
            call(run, "lot", 200 + 10 * below(2) + below(3), 900 + below(100), below(4) == 0 ? 20 : 0, 1 + below(3));
        }
        for (int i = 0; i < 40 && model.count(4) < 400 || i < 3; i++) {
            aDay(run);
        }
        Checks.same("run " + run + ": the room is full", clock.count(4), 400);
        for (int i = 0; i < 3; i++) {
            aDay(run);
        }
    }

    private void aDay(int run) {
        for (int buyer = 0; buyer < 12; buyer++) {
            call(run, "want", buyer, below(2), below(4), 15 + below(20));
            call(run, "credit", buyer, below(120));
        }
        call(run, "found", below(30), below(4));
        for (int i = 0; i < 6; i++) {
            call(run, "sell", below(30));
        }
        call(run, "foretold", below(2));
        call(run, "first", below(2));
        call(run, "would", 2 * below(2));
        call(run, "round", 2 * below(2));
        call(run, "claim", existing(4), 1);
        lookRound(run);
        call(run, "close");
    }

    /** A few lots at a time, buyers that suffice for some of them only: orders that matter. */
    private void goBest(int run) {
        begin(run);
        while (model.count(1) < 34) {
            int open = 1 + below(6);
            while (model.count(7) < open) {
                int kind = below(4);
                int extra = kind == 3 ? below(20) : 1 + below(3);
                int told = 100 * kind + 10 * below(2) + below(3);
                call(run, "lot", told, 1 + below(9), below(3) == 0 ? 0 : 18 + below(8), extra);
            }
            for (int buyer = 0; buyer < 6; buyer++) {
                call(run, "want", buyer, below(2), below(3) * 5, below(4) == 0 ? 40 : 20 + below(6));
                call(run, "credit", buyer, below(4) * 100);
            }
            for (int i = 0; i <= open; i++) {
                call(run, "place", 1, i);
            }
            call(run, "place", 2, below(open));
            call(run, "would", below(3));
            call(run, below(4) == 0 ? "sell" : "round", below(3));
            lookRound(run);
            call(run, "close");
        }
    }

    private void lookRound(int run) {
        for (int grower = 0; grower < 3; grower++) {
            call(run, "takings", grower);
        }
        for (int i = 0; i < 6; i++) {
            call(run, "about", i, below(2));
            call(run, "look", existing(1), below(9));
            call(run, "cart", Math.max(0, model.count(4) - 1 - below(9)));
            call(run, "payment", Math.max(0, model.count(4) - 1 - below(9)), below(6));
            call(run, "bill", i, model.count(3));
            call(run, "dock", i);
            call(run, "count", 2 + i);
        }
    }

    private void begin(int run) {
        for (int i = 0; i < 3; i++) {
            call(run, "grower", below(101));
        }
        for (int i = 0; i < 6; i++) {
            call(run, "buyer", cents());
            callAny(run, "want");
        }
    }

    private void callAny(int run, String name) {
        call(run, name, argumentsOf(name));
    }

    private void call(int run, String name, int... a) {
        told.setLength(0);
        told.append("run ").append(run).append(": ").append(name).append('(');
        for (int argument : a) {
            told.append(argument).append(' ');
        }
        told.append(')');
        Checks.sameText(told.toString(), Checks.nameOfThrown(() -> onClock(name, a)),
            Checks.nameOfThrown(() -> onModel(name, a)));
    }

    private int cents() {
        return small ? about(0, 300) : about(0, 1000000);
    }

    private int stems() {
        return small ? about(0, 12) : about(0, 1000);
    }

    private int limit() {
        return small ? about(20, 26) : about(0, 99);
    }

    private int[] argumentsOf(String name) {
        switch (name) {
            case "grower": return new int[] {about(0, 100)};
            case "lot": return lotArguments();
            case "found": return new int[] {existing(1), about(0, 3)};
            case "buyer": return new int[] {cents()};
            case "want": return new int[] {existing(2), about(0, small ? 1 : 5), stems(), limit()};
            case "credit": return new int[] {existing(2), cents()};
            case "worth": return new int[] {existing(2), existing(1)};
            case "look": return new int[] {existing(1), about(0, 8)};
            case "about": return new int[] {existing(2), about(0, 13)};
            case "takings": return new int[] {existing(0)};
            case "sell": return new int[] {existing(1)};
            case "place": return new int[] {about(0, 2), about(0, 6)};
            case "round":
            case "would": return new int[] {about(0, 2)};
            case "foretold":
            case "first": return new int[] {about(0, 5)};
            case "close": return new int[0];
            case "payment": return new int[] {existing(4), about(0, 5)};
            case "claim": return new int[] {existing(4), about(1, 10)};
            case "cart": return new int[] {existing(4)};
            case "dock": return new int[] {about(0, 3)};
            case "bill": return new int[] {existing(2), about(0, below(10) == 0 ? 1000 : 15)};
            case "count": return new int[] {about(0, 7)};
            case "keep": return new int[] {about(0, 7), about(0, 4), about(0, 5)};
            case "make": return new int[] {about(0, 7), about(3, 4), about(0, below(2) == 0 ? 60 : 8)};
            case "element": return new int[] {about(0, 7), about(0, 12)};
            case "copy": return new int[] {about(0, 7), about(0, 6), about(0, 7), about(0, 6), about(0, 6)};
            default: return new int[] {about(0, 7)};
        }
    }

    private int[] lotArguments() {
        int kind = below(4);
        int sort = about(0, small ? 1 : 5);
        int told = 100 * kind + 10 * sort + about(0, Math.max(0, model.count(0) - 1));
        int extra = kind == 3 ? about(0, below(5) == 0 ? 1000 : 20) : about(1, 3);
        int least = small ? about(0, 26) : about(0, below(2) == 0 ? 99 : 10);
        return new int[] {told, Math.max(small ? -1 : 1, stems()), least, extra};
    }

    private long onClock(String name, int[] a) {
        switch (name) {
            case "grower": return clock.grower(a[0]);
            case "lot": return clock.lot(a[0], a[1], a[2], a[3]);
            case "found": return clock.found(a[0], a[1]);
            case "buyer": return clock.buyer(a[0]);
            case "want": return clock.want(a[0], a[1], a[2], a[3]);
            case "credit": return clock.credit(a[0], a[1]);
            case "worth": return clock.worth(a[0], a[1]);
            case "look": return clock.look(a[0], a[1]);
            case "about": return clock.about(a[0], a[1]);
            case "takings": return clock.takings(a[0]);
            case "sell": return clock.sell(a[0]);
            case "round": return clock.round(a[0]);
            case "place": return clock.place(a[0], a[1]);
            case "would": return clock.would(a[0]);
            case "foretold": return clock.foretold(a[0]);
            case "first": return clock.first(a[0]);
            case "close": return clock.close();
            case "payment": return clock.payment(a[0], a[1]);
            case "claim": return clock.claim(a[0], a[1]);
            case "cart": return clock.cart(a[0]);
            case "dock": return clock.dock(a[0]);
            case "bill": return clock.bill(a[0], a[1]);
            case "count": return clock.count(a[0]);
            case "keep": return clock.keep(a[0], a[1], a[2]);
            case "make": return clock.make(a[0], a[1], a[2]);
            case "element": return clock.element(a[0], a[1]);
            case "copy": return clock.copy(a[0], a[1], a[2], a[3], a[4]);
            case "weight": return clock.weight(a[0]);
            default: return clock.toss(a[0]);
        }
    }

    private long onModel(String name, int[] a) {
        switch (name) {
            case "grower": return model.grower(a[0]);
            case "lot": return model.lot(a[0], a[1], a[2], a[3]);
            case "found": return model.found(a[0], a[1]);
            case "buyer": return model.buyer(a[0]);
            case "want": return model.want(a[0], a[1], a[2], a[3]);
            case "credit": return model.credit(a[0], a[1]);
            case "worth": return model.worth(a[0], a[1]);
            case "look": return model.look(a[0], a[1]);
            case "about": return model.about(a[0], a[1]);
            case "takings": return model.takings(a[0]);
            case "sell": return model.sell(a[0]);
            case "round": return model.round(a[0]);
            case "place": return model.place(a[0], a[1]);
            case "would": return model.would(a[0]);
            case "foretold": return model.foretold(a[0]);
            case "first": return model.first(a[0]);
            case "close": return model.close();
            case "payment": return model.payment(a[0], a[1]);
            case "claim": return model.claim(a[0], a[1]);
            case "cart": return model.cart(a[0]);
            case "dock": return model.dock(a[0]);
            case "bill": return model.bill(a[0], a[1]);
            case "count": return model.count(a[0]);
            case "keep": return model.keep(a[0], a[1], a[2]);
            case "make": return model.make(a[0], a[1], a[2]);
            case "element": return model.element(a[0], a[1]);
            case "copy": return model.copy(a[0], a[1], a[2], a[3], a[4]);
            case "weight": return model.weight(a[0]);
            default: return model.toss(a[0]);
        }
    }
}
