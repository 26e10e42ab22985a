/** What the tests share: they count what is wrong, and end with exit code 1 if anything was. */
final class Checks {
    interface Call {
        long go();
    }

    private static int made = 0;
    private static int wrong = 0;

    private Checks() {
    }

    static void same(String what, long got, long due) {
        made++;
        if (got != due) {
            wrong++;
            System.out.println(what + " answered " + got + ", due is " + due);
        }
    }

    static void sameText(String what, String got, String due) {
        made++;
        if (!got.equals(due)) {
            wrong++;
            System.out.println(what + ": got\n" + got + "due is\n" + due);
        }
    }

    /** A call that answers a refusal and changes nothing. */
    static void refused(FlowerClock clock, String what, long due, Call call) {
        String before = Picture.of(clock);
        same(what, call.go(), due);
        sameText("after " + what, Picture.of(clock), before);
    }

    /** A call that throws exactly this, and changes nothing. */
    static void thrown(FlowerClock clock, String what, Class<? extends RuntimeException> due, Call call) {
        String before = Picture.of(clock);
        sameText(what, nameOfThrown(call), due.getSimpleName());
        sameText("after " + what, Picture.of(clock), before);
    }

    /** The name of what a call throws; its answer if it throws nothing. */
    static String nameOfThrown(Call call) {
        try {
            return Long.toString(call.go());
        } catch (RuntimeException thrown) {
            return thrown.getClass().getSimpleName();
        }
    }

    static void end(String test) {
        System.out.println(test + ": " + made + " checks, " + wrong + " wrong");
        if (wrong > 0 || made == 0) {
            System.exit(1);
        }
    }
}
