/** What the tests share: they count what is wrong, and end with exit code 1 if anything was. */
final class Checks {
    interface Call {
        long go();
    }

    private static int made = 0;
    private static int wrong = 0;
    private static Sentences sentences;
    private static String held = "";

    private Checks() {
    }

    /** The checks that come hold this sentence: of a promise, or of what stands ahead of (0) or behind (31) them all. */
    static void holds(int promise, String sentence) {
        if (sentences == null) {
            sentences = new Sentences();
        }
        held = partOf(promise) + ", \"" + sentence + "\": ";
        made++;
        if (!sentences.name(promise, sentence)) {
            wrong(" the document doesn't have this once");
        }
    }

    private static String partOf(int promise) {
        if (promise == 0) {
            return "ahead of the promises";
        }
        return promise > 30 ? "behind the promises" : "promise " + promise;
    }

    /** Each sentence of the document has been held by a test. */
    static void allSentencesHeld() {
        held = "";
        sameText("sentences without a test", sentences == null ? "all" : sentences.unnamed(), "");
    }

    static void same(String what, long got, long due) {
        made++;
        if (got != due) {
            wrong(what + " answered " + got + ", due is " + due);
        }
    }

    static void sameText(String what, String got, String due) {
        made++;
        if (!got.equals(due)) {
            wrong(what + ": got\n" + got + "due is\n" + due);
        }
    }

    private static void wrong(String told) {
        wrong++;
        System.out.println(held + told);
    }

    /** A call that answers a refusal and changes nothing. */
    static void refused(FlowerClock clock, String what, long due, Call call) {
        String before = Picture.of(clock);
        same(what, call.go(), due);
        sameText("after " + what, Picture.of(clock), before);
    }

    /** A call that throws exactly this, and changes nothing. */
    static void thrown(FlowerClock clock, String what, Class<? extends RuntimeException> due, Call call) {
        String before = Picture.of(clock);
        sameText(what, nameOfThrown(call), due.getSimpleName());
        sameText("after " + what, Picture.of(clock), before);
    }

    /** The name of what a call throws; its answer if it throws nothing. */
    static String nameOfThrown(Call call) {
        try {
            return Long.toString(call.go());
        } catch (RuntimeException thrown) {
            return thrown.getClass().getSimpleName();
        }
    }

    static void end(String test) {
        System.out.println(test + ": " + made + " checks, " + wrong + " wrong");
        if (wrong > 0 || made == 0) {
            System.exit(1);
        }
    }
}
